/** The edges that the document names for the run: NOW at 0 and at 300, the very minute, the last unit, the empty QUEUE. */
public final class EdgeRunTest {
    public static void main(String[] args) {
        nowAtZero();
        nowAtOne();
        nowAt300();
        overAt300();
        dueAndOver();
        comesAndDueFarthest();
        asLongAsPeriod();
        emptyQueue();
        queueAtTheSameTime();
        quantumIsDone();
        budgetOfOne();
        budgetIsFullInTime();
        budgetAndItsRefill();
        sectionsMeet();
        sectionsOfEveryLength();
        agingIsRoundedDown();
        strengthHasNoTop();
        lesserAtMost();
        lesserOfTheCut();
        switches();
        circleOfFour();
        lentAlong();
        sharesAreNotRounded();
        twelveAtOnce();
        againIsNew();
        Check.done("EdgeRunTest");
    }

    private static void rowIs(String name, String want, int... got) {
        StringBuilder text = new StringBuilder();
        for (int g : got) {
            text.append(text.length() == 0 ? "" : " ").append(g);
        }
        Check.is(name, text.toString(), want);
    }

    private static void taskIs(String name, Deadlinekeeper x, int job, String want) {
        int[] got = new int[10];
        for (int what = 0; what < 10; what++) {
            got[what] = x.ofTask(job, what);
        }
        rowIs("33 " + name, want, got);
    }

    private static void runIs(String name, Deadlinekeeper x, int job, String want) {
        int[] got = new int[8];
        for (int what = 0; what < 8; what++) {
            got[what] = x.ofRun(job, what);
        }
        rowIs("34 " + name, want, got);
    }

    private static void allIs(String name, Deadlinekeeper x, String want) {
        int[] got = new int[9];
        for (int what = 0; what < 9; what++) {
            got[what] = x.ofAll(what);
        }
        rowIs("35 " + name, want, got);
    }

    private static void queueIs(String name, Deadlinekeeper x, int... jobs) {
        for (int k = 0; k < jobs.length; k++) {
            Check.is("37 " + name + " queued(" + k + ")", x.queued(k), jobs[k]);
        }
        for (int beyond : new int[] {jobs.length, -1, 12, Integer.MIN_VALUE, Integer.MAX_VALUE}) {
            Check.noIndex("37 " + name + " queued(" + beyond + ")", () -> x.queued(beyond));
        }
    }

    private static void traceIs(String name, Deadlinekeeper x, String want) {
        Check.is("32 " + name, x.trace(0, x.ofAll(0)), want);
    }

    // ---- NOW

    private static Deadlinekeeper two() {
        Deadlinekeeper x = new Deadlinekeeper();
        x.once(0, 2, 9, 4, 1);
        x.every(0, 3, 8, 6);
        x.section(0, 1, 0, 2);
        x.budget(1, 2, 5);
        x.rules(3, 1, 0, 0);
        return x;
    }

    private static void atZeroIs(String name, Deadlinekeeper x) {
        allIs(name, x, "0 0 0 0 0 0 0 0 0");
        taskIs(name, x, 0, "0 -1 -1 -1 -1 -1 -1 -1 -1 -1");
        taskIs(name, x, 1, "0 -1 -1 -1 -1 -1 -1 -1 -1 -1");
        runIs(name, x, 0, "0 0 0 -1 -1 0 -1 -1");
        runIs(name, x, 1, "0 0 0 -1 -1 0 2 -1");
        queueIs(name, x);
        for (int lock = 0; lock < 4; lock++) {
            Check.is("36 " + name, x.holder(lock), -1);
        }
        Check.noIndex("31 " + name, () -> x.ran(0));
        Check.noIndex("31 " + name, () -> x.ran(-1));
        Check.is("32 " + name, x.trace(0, 0), "");
        Check.is("32 " + name, x.trace(0, 1), "-9");
        Check.is("32 " + name, x.trace(1, 1), "-9");
    }

    private static void nowAtZero() {
        Deadlinekeeper x = two();
        atZeroIs("NOW 0, though both come at 0", x);
        Check.is("11 again at 0", x.again(), 0);
        atZeroIs("NOW 0 again", x);
        x.run(3);
        Check.is("11 again at 3", x.again(), 3);
        atZeroIs("NOW 0 after a run", x);
        Check.is("2 the PLAN can be told", x.once(0, 1, 1, 0, 0), 2);
        Check.is("9 and undone", x.undo(), 5);
    }

    private static void nowAtOne() {
        Deadlinekeeper x = two();
        x.run(1);
        allIs("NOW 1", x, "1 0 1 0 0 3 0 2 0");
        queueIs("NOW 1", x, 1, 0);
        taskIs("NOW 1", x, 0, "1 1 0 9 0 4 2 1 1 -1");
        taskIs("NOW 1", x, 1, "1 3 0 8 1 6 0 0 1 -1");
        Check.is("31 NOW 1", x.ran(0), 0);
        Check.noIndex("31 NOW 1", () -> x.ran(1));
        Check.is("32 NOW 1", x.trace(0, 1), "a");
        Check.is("32 NOW 1", x.trace(1, 1), "");
        Check.noState("2 NOW 1", () -> x.once(0, 1, 1, 0, 0));
        Check.noState("9 NOW 1", x::undo);
    }

    /** Job 1 runs at 4, 12, .. 292, as its BUDGET of one minute lets it; job 0 has all that is left at 0, 60, .. 240. */
    private static void nowAt300() {
        Deadlinekeeper x = new Deadlinekeeper();
        x.every(0, 8, 60, 0);
        x.every(4, 8, 8, 1);
        x.budget(1, 1, 8);
        x.rules(1, 1, 0, 0);
        int empty = 0;
        for (int k = 0; k < 5; k++) {
            empty += x.run(60);
        }
        Check.is("10 empty ones", empty, 223);
        allIs("NOW 300", x, "300 223 47 5 36 2 0 0 0");
        runIs("NOW 300", x, 0, "40 5 0 10 249 0 -1 -1");
        runIs("to be FULL again at 300, not done", x, 1, "37 0 36 -1 -1 0 0 300");
        taskIs("what comes at 300 is not there", x, 0, "0 -1 -1 -1 -1 -1 -1 -1 -1 -1");
        taskIs("what is DUE at 300 is there", x, 1, "1 7 292 300 0 1 0 0 0 -1");
        Check.is("31 the last minute", x.ran(299), -1);
        Check.is("31 the last one that is not empty", x.ran(292), 1);
        Check.noIndex("31 NOW", () -> x.ran(300));
        Check.is("32 all", x.trace(0, 300).length(), 300);
        Check.is("32 the end", x.trace(290, 300), "..b.......");
        Check.is("32 none", x.trace(300, 300), "");
        Check.is("32 beyond", x.trace(300, 301), "-9");
        Check.is("32 beyond", x.trace(0, 301), "-9");
        long before = x.digest();
        Check.noState("10 beyond", () -> x.run(1));
        Check.noState("10 beyond", () -> x.run(60));
        Check.noArgument("10 none", () -> x.run(0));
        Check.noState("2 NOW 300", () -> x.once(0, 1, 1, 0, 0));
        Check.noState("9 NOW 300", x::undo);
        Check.is("10 refused", x.digest(), before);
        Check.is("11 NOW before", x.again(), 300);
        Check.is("10 anew", x.run(4), 0);
    }

    private static void overAt300() {
        Deadlinekeeper x = new Deadlinekeeper();
        x.every(4, 8, 8, 1);
        x.rules(3, 5, 0, 0);
        for (int k = 0; k < 5; k++) {
            x.run(60);
        }
        allIs("OVER at 300", x, "300 4 1 37 0 0 0 0 0");
        runIs("OVER at 300", x, 0, "296 37 0 8 300 0 -1 -1");
        queueIs("OVER at 300", x);
        Check.is("39 OVER at 300", x.isSound(), true);
    }

    // ---- DUE

    private static void dueAndOver() {
        for (int term = 1; term <= 9; term++) {
            Deadlinekeeper x = new Deadlinekeeper();
            x.once(3, 8, term, 0, 0);
            x.run(3 + term);
            boolean isOver = term >= 8;
            taskIs("at DUE, term " + term, x, 0, isOver ? "0 -1 -1 -1 -1 -1 -1 -1 -1 -1"
                    : "1 " + (8 - term) + " 3 " + (3 + term) + " 0 0 0 1 1 -1");
            runIs("at DUE, term " + term, x, 0, Math.min(term, 8) + (isOver ? " 1 0 8 11 0 -1 -1" : " 0 0 -1 -1 0 -1 -1"));
            Check.is("10 the next minute is empty", x.run(1), 1);
            runIs("a minute later, term " + term, x, 0,
                    Math.min(term, 8) + (isOver ? " 1 0 8 11 0 -1 -1" : " 0 1 -1 -1 0 -1 -1"));
            Check.is("35 it is gone", x.ofAll(5), 0);
        }
    }

    private static void comesAndDueFarthest() {
        Deadlinekeeper x = new Deadlinekeeper();
        x.once(60, 2, 40, 1, 0);
        x.once(60, 1, 1, 0, 0);
        x.needs(0, 1, true);
        x.needs(1, 0, false);
        x.rules(1, 1, 0, 0);
        Check.is("10 nothing comes ahead of 60", x.run(60), 60);
        Check.is("35 it is not there at 60 yet", x.ofAll(5), 0);
        Check.is("10 minute 60", x.run(1), 0);
        Check.is("31 who is needed", x.ran(60), 1);
        taskIs("READY now", x, 0, "1 2 60 100 0 1 0 0 1 -1");
        Deadlinekeeper y = new Deadlinekeeper();
        y.once(60, 8, 1, 0, 0);
        y.once(60, 1, 40, 9, 0);
        y.needs(1, 0, true);
        y.run(60);
        y.run(40);
        taskIs("who needs one that was CUT is there at its DUE", y, 1, "1 1 60 100 0 9 0 0 0 -1");
        allIs("at 100", y, "100 99 1 0 1 2 0 0 0");
        y.run(1);
        allIs("behind 100", y, "101 100 1 0 2 0 0 0 0");
    }

    private static void asLongAsPeriod() {
        for (int period : new int[] {4, 5, 6, 8}) {
            Deadlinekeeper x = new Deadlinekeeper();
            x.every(0, period, period, 0);
            Check.is("10 none is empty", x.run(60), 0);
            int times = 60 / period;
            runIs("OVER as the next one comes", x, 0, 60 + " " + times + " 0 " + period + " " + times * period
                    + " 0 -1 -1");
            Check.is("35 one SWITCH", x.ofAll(2), 1);
            Check.is("28 RESPONSE", x.response(0), period);
            Check.is("39 sound", x.isSound(), true);
        }
    }

    // ---- the QUEUE

    private static void emptyQueue() {
        Deadlinekeeper x = new Deadlinekeeper();
        x.rules(3, 1, 0, 0);
        queueIs("no JOB", x);
        x.run(1);
        queueIs("no JOB, run", x);
        x.again();
        x.once(1, 2, 3, 0, 0);
        queueIs("told", x);
        x.run(1);
        queueIs("it has not come", x);
        x.run(1);
        queueIs("it has come and run", x, 0);
        x.run(1);
        queueIs("it is OVER", x);
        Check.is("11 back", x.again(), 3);
        queueIs("NOW 0 again", x);
        x.run(2);
        x.again();
        queueIs("NOW 0 again, out of the midst", x);
        Deadlinekeeper y = new Deadlinekeeper();
        y.once(0, 3, 2, 0, 0);
        y.rules(3, 1, 0, 0);
        y.run(2);
        queueIs("it is DUE", y, 0);
        y.run(1);
        queueIs("it was CUT", y);
        for (int mode = 0; mode < 3; mode++) {
            Deadlinekeeper z = new Deadlinekeeper();
            z.once(0, 3, 20, 0, 0);
            z.once(0, 3, 20, 0, 0);
            z.rules(mode, 1, 0, 0);
            z.run(2);
            queueIs("MODE " + mode, z);
            Check.is("35 both are there", z.ofAll(5), 3);
        }
    }

    /** CUT first, then who comes, JOB by JOB: a TASK that is CUT as the next one comes loses its place. */
    private static void queueAtTheSameTime() {
        Deadlinekeeper x = new Deadlinekeeper();
        x.once(0, 8, 40, 0, 0);
        x.every(0, 8, 8, 0);
        x.once(8, 1, 9, 0, 0);
        x.once(7, 1, 9, 0, 0);
        x.rules(3, 5, 0, 0);
        x.run(8);
        traceIs("two in turn", x, "aaaaabbb");
        queueIs("DUE at 8", x, 1, 0, 3);
        x.run(1);
        Check.is("31 it was CUT", x.ran(8), 0);
        queueIs("JOB by JOB", x, 0, 3, 1, 2);
        x.run(3);
        traceIs("then in their order", x, "aaaaabbbaaad");
        queueIs("OVER", x, 1, 2);
    }

    private static void quantumIsDone() {
        for (int quantum = 1; quantum <= 5; quantum++) {
            Deadlinekeeper x = new Deadlinekeeper();
            x.once(0, quantum, 40, 0, 0);
            x.once(0, quantum + 1, 40, 0, 0);
            x.once(0, 2 * quantum > 8 ? 8 : 2 * quantum, 40, 0, 0);
            x.rules(3, quantum, 0, 0);
            x.run(quantum);
            queueIs("OVER with its QUANTUM " + quantum, x, 1, 2);
            x.run(quantum);
            queueIs("one minute is left, QUANTUM " + quantum, x, 2, 1);
            x.run(quantum);
            queueIs("again", x, 1, 2);
            x.run(1);
            queueIs("OVER ahead of its QUANTUM", x, 2);
            Check.is("39 sound", x.isSound(), true);
        }
    }

    // ---- BUDGETS

    private static void budgetOfOne() {
        Deadlinekeeper x = new Deadlinekeeper();
        x.once(0, 3, 40, 0, 0);
        x.budget(0, 1, 2);
        x.run(1);
        taskIs("it has run out at once", x, 0, "1 2 0 40 0 0 0 0 0 -1");
        runIs("it has run out at once", x, 0, "1 0 0 -1 -1 0 0 2");
        x.run(1);
        runIs("FULL at 2, which is not done", x, 0, "1 0 0 -1 -1 0 0 2");
        x.run(3);
        traceIs("every other minute", x, "a.a.a");
        runIs("OVER", x, 0, "3 1 0 5 5 0 0 6");
        x.run(1);
        runIs("FULL at 6, which is not done", x, 0, "3 1 0 5 5 0 0 6");
        x.run(1);
        runIs("FULL again", x, 0, "3 1 0 5 5 0 1 -1");
        Deadlinekeeper y = new Deadlinekeeper();
        y.once(1, 2, 31, 0, 0);
        y.budget(0, 1, 30);
        y.run(31);
        traceIs("not at 30", y, "." + "a" + ".".repeat(29));
        runIs("not at 30", y, 0, "1 0 0 -1 -1 0 0 31");
        y.run(1);
        runIs("at 31, OVER at DUE", y, 0, "2 1 0 31 32 0 0 61");
    }

    private static void budgetIsFullInTime() {
        Deadlinekeeper x = new Deadlinekeeper();
        x.once(0, 6, 40, 0, 0);
        x.budget(0, 2, 2);
        for (int minute = 0; minute < 5; minute++) {
            x.run(1);
            runIs("minute " + minute, x, 0, (minute + 1) + " 0 0 -1 -1 0 " + (1 - minute % 2) + " " + (minute / 2 * 2 + 2));
            taskIs("minute " + minute, x, 0, "1 " + (5 - minute) + " 0 40 0 0 0 " + (1 - minute % 2) + " "
                    + (1 - minute % 2) + " -1");
        }
        traceIs("FULL ahead of d.", x, "aaaaa");
    }

    private static void budgetAndItsRefill() {
        Deadlinekeeper x = new Deadlinekeeper();
        x.once(0, 8, 40, 0, 0);
        x.budget(0, 8, 30);
        x.run(8);
        runIs("as many as LENGTH", x, 0, "8 1 0 8 8 0 0 30");
        Deadlinekeeper y = new Deadlinekeeper();
        y.once(0, 8, 40, 0, 0);
        y.budget(0, 8, 2);
        for (int minute = 0; minute < 7; minute++) {
            y.run(1);
            rowIs("34 never run out, " + minute, (7 - minute % 2) + " " + (minute / 2 * 2 + 2), y.ofRun(0, 6), y.ofRun(0, 7));
            rowIs("33 so it has BEGUN, " + minute, "1 1", y.ofTask(0, 7), y.ofTask(0, 8));
        }
        Deadlinekeeper z = new Deadlinekeeper();
        z.every(0, 1, 4, 0);
        z.budget(0, 2, 6);
        z.run(5);
        runIs("of the JOB, not of the TASK", z, 0, "2 2 0 1 5 0 0 6");
        z.run(1);
        runIs("not done yet", z, 0, "2 2 0 1 5 0 0 6");
        z.run(1);
        runIs("FULL with no TASK there", z, 0, "2 2 0 1 5 0 2 -1");
        z.run(2);
        runIs("from its next minute on", z, 0, "3 3 0 1 9 0 1 14");
        z.again();
        runIs("11 FULL at 0", z, 0, "0 0 0 -1 -1 0 2 -1");
        Deadlinekeeper w = new Deadlinekeeper();
        w.every(0, 2, 4, 5);
        w.budget(0, 1, 30);
        w.run(60);
        runIs("CUT, as its BUDGET is too small", w, 0, "2 0 14 -1 -1 0 0 60");
        rowIs("39 a BUDGET of 1 is one, so this is sound", "60 1", w.share(), w.isSound() ? 1 : 0);
    }

    // ---- SECTIONS

    private static void sectionsMeet() {
        Deadlinekeeper x = new Deadlinekeeper();
        x.once(0, 5, 40, 0, 0);
        x.section(0, 0, 0, 2);
        x.section(0, 1, 2, 4);
        x.section(0, 3, 1, 3);
        String[] held = {"1", "8", "2", "0"};
        for (int minute = 0; minute < 4; minute++) {
            x.run(1);
            Check.is("35 held behind minute " + minute, "" + x.ofAll(7), held[minute]);
            Check.is("33 held behind minute " + minute, "" + x.ofTask(0, 6), held[minute]);
        }
        x.run(1);
        allIs("OVER", x, "5 0 1 1 0 0 0 0 0");
    }

    /** Who comes later wants the LOCK at once: it runs as soon as it is given back. */
    private static void sectionsOfEveryLength() {
        for (int from = 0; from < 8; from++) {
            for (int to = from + 1; to <= 8; to++) {
                Deadlinekeeper x = new Deadlinekeeper();
                x.once(0, 8, 40, 0, 0);
                x.once(from + 1, 1, 9, 9, 0);
                x.section(0, 2, from, to);
                x.section(1, 2, 0, 1);
                x.rules(1, 1, 0, 0);
                x.run(9);
                String name = "SECTION from " + from + " to " + to;
                traceIs(name, x, "a".repeat(to) + "b" + "a".repeat(8 - to));
                Check.is("35 BLOCKED, " + name, x.ofAll(8), to - from - 1);
                Check.is("39 " + name, x.isSound(), true);
            }
        }
    }

    // ---- STRENGTH

    private static void agingIsRoundedDown() {
        for (int aging = 1; aging <= 10; aging++) {
            Deadlinekeeper x = new Deadlinekeeper();
            x.once(0, 8, 20, 0, 0);
            x.once(0, 8, 20, 0, 0);
            x.once(0, 8, 40, 3, 0);
            x.rules(0, 1, aging, 0);
            for (int waited = 1; waited <= 16; waited++) {
                x.run(1);
                rowIs("33 AGING " + aging, waited + " " + (3 + waited / aging), x.ofTask(2, 4), x.ofTask(2, 5));
            }
            x.run(1);
            rowIs("33 it has run", "0 3", x.ofTask(2, 4), x.ofTask(2, 5));
            Deadlinekeeper y = new Deadlinekeeper();
            y.once(0, 8, 40, 1, 0);
            y.once(0, 8, 39, 0, 0);
            y.rules(1, 1, aging, 0);
            y.run(8);
            String want = "a".repeat(Math.min(aging, 8)) + (aging < 8 ? "b" : "");
            Check.is("32 AGING " + aging, y.trace(0, Math.min(aging + 1, 8)), want);
        }
    }

    private static void strengthHasNoTop() {
        Deadlinekeeper x = new Deadlinekeeper();
        for (int job = 0; job < 5; job++) {
            x.once(0, 8, 39, 9, 0);
        }
        x.once(0, 8, 40, 9, 0);
        x.rules(0, 1, 1, 1);
        x.run(39);
        rowIs("33 the most", "39 48", x.ofTask(5, 4), x.ofTask(5, 5));
        x.run(1);
        rowIs("33 it has run", "0 9", x.ofTask(5, 4), x.ofTask(5, 5));
        x.run(1);
        Check.is("33 it was CUT", x.ofTask(5, 5), -1);
    }

    // ---- what is counted

    private static void lesserAtMost() {
        Deadlinekeeper x = new Deadlinekeeper();
        for (int job = 0; job < 11; job++) {
            x.once(0, 1, job + 1, job == 10 ? 8 : 0, 0);
        }
        x.once(0, 1, 12, 9, 0);
        x.run(12);
        traceIs("each at its DUE", x, "abcdefghijkl");
        runIs("eleven", x, 11, "1 1 0 12 12 11 -1 -1");
        runIs("ten", x, 10, "1 1 0 11 11 10 -1 -1");
        runIs("of the same RANK none", x, 9, "1 1 0 10 10 0 -1 -1");
        Deadlinekeeper y = new Deadlinekeeper();
        y.once(0, 4, 5, 1, 0);
        y.once(0, 1, 20, 2, 0);
        y.once(0, 1, 4, 1, 0);
        y.needs(1, 2, true);
        y.rules(0, 1, 0, 0);
        y.run(6);
        traceIs("first who is needed", y, "caaaab");
        Check.is("34 not READY in the first, the same one in the others", y.ofRun(1, 5), 1);
    }

    private static void lesserOfTheCut() {
        Deadlinekeeper x = new Deadlinekeeper();
        x.once(0, 1, 1, 0, 0);
        x.once(0, 1, 2, 0, 0);
        x.every(0, 4, 4, 5);
        x.once(4, 4, 3, 0, 0);
        x.run(4);
        runIs("of the first TASK", x, 2, "2 0 0 -1 -1 2 -1 -1");
        x.run(4);
        traceIs("the second TASK", x, "abccdddc");
        runIs("the greatest is the first one's, which was CUT", x, 2, "3 0 1 -1 -1 2 -1 -1");
    }

    private static void switches() {
        Deadlinekeeper x = new Deadlinekeeper();
        x.every(1, 1, 4, 0);
        x.every(2, 1, 4, 0);
        x.every(3, 2, 8, 0);
        int[] due = {0, 1, 2, 3, 3, 4, 5, 5, 5, 6, 7, 8};
        for (int minute = 0; minute < due.length; minute++) {
            x.run(1);
            Check.is("35 SWITCHES behind " + minute, x.ofAll(2), due[minute]);
        }
        traceIs("switches", x, ".abccab..abc");
        Deadlinekeeper y = new Deadlinekeeper();
        y.every(0, 4, 4, 0);
        y.run(1);
        Check.is("35 there was none ahead of the first minute", y.ofAll(2), 1);
        y.run(20);
        Check.is("35 another TASK is not another JOB", y.ofAll(2), 1);
    }

    private static void circleOfFour() {
        Deadlinekeeper x = new Deadlinekeeper();
        for (int job = 0; job < 4; job++) {
            x.once(job, 4, 30, job, 0);
            x.section(job, job, 0, 4);
        }
        for (int job = 0; job < 4; job++) {
            x.section(job, (job + 1) % 4, 1, 2);
        }
        x.rules(1, 1, 0, 1);
        x.run(4);
        allIs("all four wait", x, "4 0 4 0 0 15 15 15 3");
        x.run(1);
        allIs("and nothing runs", x, "5 1 4 0 0 15 15 15 7");
        for (int job = 0; job < 4; job++) {
            rowIs("33 round", "3 " + (job + 1) % 4, x.ofTask(job, 5), x.ofTask(job, 9));
        }
        x.run(25);
        Check.is("35 DUE at 30", x.ofAll(6), 15);
        x.run(1);
        Check.is("35 CUT", x.ofAll(6), 0);
        Deadlinekeeper y = new Deadlinekeeper();
        for (int job = 0; job < 2; job++) {
            y.once(job, 4, 30, job, 0);
            y.section(job, job, 0, 4);
            y.section(job, 1 - job, 1, 2);
        }
        y.every(3, 1, 20, 9);
        y.section(2, 0, 0, 1);
        y.rules(1, 1, 0, 1);
        y.run(4);
        rowIs("35 two are a CIRCLE, who waits for it is not in it", "3 7", y.ofAll(6), y.ofAll(5));
        rowIs("33 lent round", "9 9 9", y.ofTask(0, 5), y.ofTask(1, 5), y.ofTask(2, 5));
    }

    /** Each holds a LOCK and waits for the one ahead; eight wait for the last: 9 is lent down to the first. */
    private static void lentAlong() {
        Deadlinekeeper x = new Deadlinekeeper();
        for (int job = 0; job < 12; job++) {
            x.once(Math.min(job, 4), 8, 40, job == 4 ? 9 : Math.min(job, 4), 0);
        }
        x.section(0, 0, 0, 8);
        for (int job = 1; job < 4; job++) {
            x.section(job, job, 0, 4);
        }
        for (int job = 1; job < 4; job++) {
            x.section(job, job - 1, 1, 2);
        }
        for (int job = 4; job < 12; job++) {
            x.section(job, 3, 0, 1);
        }
        x.rules(1, 1, 0, 1);
        x.run(5);
        traceIs("the first one runs on", x, "abcda");
        rowIs("33 lent along", "9 9 9 9 9 4", x.ofTask(0, 5), x.ofTask(1, 5), x.ofTask(2, 5), x.ofTask(3, 5), x.ofTask(4, 5),
                x.ofTask(11, 5));
        rowIs("33 from BLOCKER to BLOCKER", "-1 0 1 2 3 3", x.ofTask(0, 9), x.ofTask(1, 9), x.ofTask(2, 9), x.ofTask(3, 9),
                x.ofTask(4, 9), x.ofTask(11, 9));
        allIs("twelve are there", x, "5 0 5 0 0 4095 0 15 14");
    }

    private static void sharesAreNotRounded() {
        Deadlinekeeper x = new Deadlinekeeper();
        x.once(0, 8, 40, 9, 0);
        x.once(0, 8, 40, 8, 0);
        x.rules(2, 1, 0, 0);
        x.run(16);
        traceIs("1 / 10 is less than 1 / 9", x, "abababababababab");
        Deadlinekeeper y = new Deadlinekeeper();
        y.once(0, 8, 40, 0, 0);
        y.once(0, 8, 40, 9, 0);
        y.rules(2, 1, 0, 0);
        y.run(16);
        traceIs("8 / 10 is less than 1", y, "abbbbbbbbaaaaaaa");
        Deadlinekeeper z = new Deadlinekeeper();
        z.once(0, 3, 40, 1, 0);
        z.once(0, 6, 40, 3, 0);
        z.rules(2, 1, 0, 0);
        z.run(9);
        traceIs("1 / 2 is as much as 2 / 4", z, "abbabbabb");
    }

    private static void twelveAtOnce() {
        for (int mode = 0; mode < 4; mode++) {
            Deadlinekeeper x = new Deadlinekeeper();
            for (int job = 0; job < 12; job++) {
                x.once(0, 2, 24, 0, 0);
            }
            x.rules(mode, 1, 0, 0);
            x.run(12);
            String one = "abcdefghijkl";
            traceIs("MODE " + mode, x, mode < 2 ? "aabbccddeeff" : one);
            Check.is("35 there in MODE " + mode, x.ofAll(5), mode < 2 ? 4095 - 63 : 4095);
            x.run(12);
            allIs("all in time, MODE " + mode, x, "24 0 " + (mode < 2 ? 12 : 24) + " 12 0 0 0 0 0");
            Check.is("34 the last one", x.ofRun(11, 3), 24);
            queueIs("MODE " + mode, x);
        }
    }

    private static void againIsNew() {
        Deadlinekeeper x = two();
        long first = x.digest();
        for (int minutes = 1; minutes <= 20; minutes++) {
            x.run(minutes);
            long ran = x.digest();
            Check.is("11 NOW before", x.again(), minutes);
            Check.is("11 nothing has been run", x.digest(), first);
            x.run(minutes);
            Check.is("11 and all runs as before", x.digest(), ran);
            x.again();
        }
    }
}
