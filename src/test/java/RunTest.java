/** Promises 10, 11 and 31 to 37: the run and what is asked of it. */
public final class RunTest {
    public static void main(String[] args) {
        promise10();
        promise11();
        promise31And32();
        tasksComeAndGo();
        eachTaskForItself();
        byRankAndAging();
        lentRanks();
        lentInEachMode();
        ceilings();
        greatestCeiling();
        circles();
        shares();
        turns();
        turnsInAll();
        turnsOfTwelve();
        budgets();
        budgetsAndCeilings();
        neededJobs();
        locksOfTheCut();
        wrongQuestions();
        Check.done("RunTest");
    }

    private static void traceIs(String name, Deadlinekeeper x, String want) {
        Check.is(name, x.trace(0, want.length()), want);
    }

    private static Deadlinekeeper ran(Deadlinekeeper x, int minutes) {
        x.run(minutes);
        return x;
    }

    private static void taskIs(String name, Deadlinekeeper x, int job, int... due) {
        for (int what = 0; what < due.length; what++) {
            Check.is(name + " ofTask(" + job + ", " + what + ")", x.ofTask(job, what), due[what]);
        }
    }

    private static void runIs(String name, Deadlinekeeper x, int job, int... due) {
        for (int what = 0; what < due.length; what++) {
            Check.is(name + " ofRun(" + job + ", " + what + ")", x.ofRun(job, what), due[what]);
        }
    }

    private static void allIs(String name, Deadlinekeeper x, int... due) {
        for (int what = 0; what < due.length; what++) {
            Check.is(name + " ofAll(" + what + ")", x.ofAll(what), due[what]);
        }
    }

    private static void promise10() {
        Deadlinekeeper x = new Deadlinekeeper();
        x.once(2, 3, 9, 0, 0);
        Check.is("10 all empty", x.run(2), 2);
        Check.is("10 some empty", x.run(5), 2);
        Check.is("10 NOW", x.ofAll(0), 7);
        Check.noArgument("10 0", () -> x.run(0));
        Check.noArgument("10 -1", () -> x.run(-1));
        Check.noArgument("10 61", () -> x.run(61));
        Check.noArgument("10 far", () -> x.run(Integer.MAX_VALUE));
        for (int k = 0; k < 4; k++) {
            x.run(60);
        }
        x.run(52);
        Check.noState("10 beyond 300", () -> x.run(2));
        Check.noArgument("10 argument first", () -> x.run(61));
        Check.is("10 nothing changed", x.ofAll(0), 299);
        Check.is("10 up to 300", x.run(1), 1);
        Check.noState("10 at 300", () -> x.run(1));
        Check.is("10 NOW", x.ofAll(0), 300);
        Check.is("10 all empty ones", x.ofAll(1), 297);
    }

    private static void promise11() {
        Deadlinekeeper x = new Deadlinekeeper();
        x.once(0, 4, 2, 1, 0);
        x.section(0, 0, 0, 4);
        x.every(0, 1, 4, 3);
        x.budget(1, 1, 7);
        x.rules(3, 2, 0, 0);
        long before = x.digest();
        x.run(2);
        Check.is("11 NOW before", x.again(), 2);
        Check.is("11 nothing has been run", x.digest(), before);
        x.run(9);
        Check.is("11 NOW before", x.again(), 9);
        Check.is("11 nothing has been run", x.digest(), before);
        Check.noIndex("11 the QUEUE is empty", () -> x.queued(0));
        Check.is("11 at 0", x.again(), 0);
        Check.is("11 no STEP", x.plan(7), 5);
        Deadlinekeeper y = inverted(0);
        y.run(7);
        y.again();
        allIs("11 nothing has been run", y, 0, 0, 0, 0, 0, 0, 0, 0, 0);
        Check.is("11 the same once more", x.run(2) * 100 + x.ofTask(0, 6), 1);
    }

    private static void promise31And32() {
        Deadlinekeeper x = new Deadlinekeeper();
        for (int k = 0; k < 12; k++) {
            x.once(k == 11 ? 13 : 0, 1, 40, 0, 0);
        }
        Check.noIndex("31 nothing has been run", () -> x.ran(0));
        Check.is("32 nothing has been run", x.trace(0, 0), "");
        x.run(15);
        Check.is("32 all letters", x.trace(0, 15), "abcdefghijk..l.");
        Check.is("32 from one on", x.trace(10, 14), "k..l");
        Check.is("32 none", x.trace(15, 15), "");
        Check.is("32 above NOW", x.trace(0, 16), "-9");
        Check.is("32 both above NOW", x.trace(16, 16), "-9");
        Check.is("32 from above to", x.trace(3, 2), "-9");
        Check.is("32 to below 0", x.trace(0, -1), "-9");
        Check.is("32 far", x.trace(Integer.MAX_VALUE, Integer.MIN_VALUE), "-9");
        Check.noArgument("32 from -1", () -> x.trace(-1, 3));
        Check.noArgument("32 from -1, above to", () -> x.trace(-1, -5));
        Check.is("31 first", x.ran(0), 0);
        Check.is("31 empty", x.ran(11), -1);
        Check.is("31 13", x.ran(13), 11);
        Check.is("31 last", x.ran(14), -1);
        Check.noIndex("31 NOW", () -> x.ran(15));
        Check.noIndex("31 -1", () -> x.ran(-1));
        x.again();
        Check.noIndex("31 nothing again", () -> x.ran(0));
        Check.is("32 nothing again", x.trace(0, 1), "-9");
        x.run(60);
        x.run(60);
        x.run(60);
        x.run(60);
        x.run(60);
        Check.is("32 all minutes", x.trace(0, 300).length(), 300);
        Check.is("31 the last one of all", x.ran(299), -1);
    }

    private static void tasksComeAndGo() {
        Deadlinekeeper x = new Deadlinekeeper();
        x.once(0, 3, 3, 0, 0);
        x.once(0, 2, 4, 0, 0);
        x.run(4);
        traceIs("d", x, "aaab");
        taskIs("a. of the next minute is not done", x, 1, 1, 1, 0, 4, 0, 0, 0, 1, 1, -1);
        runIs("OVER at DUE", x, 0, 3, 1, 0, 3, 3, 0, -1, -1);
        taskIs("who is OVER is gone", x, 0, 0, -1, -1, -1, -1, -1, -1, -1, -1, -1);
        x.run(1);
        runIs("CUT", x, 1, 1, 0, 1, -1, -1, 0, -1, -1);
        allIs("one of each", x, 5, 1, 2, 1, 1, 0, 0, 0, 0);
        Deadlinekeeper y = new Deadlinekeeper();
        y.every(2, 2, 4, 0);
        y.run(13);
        traceIs("comes again", y, "..aa..aa..aa.");
        runIs("three times", y, 0, 6, 3, 0, 2, 12, 0, -1, -1);
        allIs("three times", y, 13, 7, 3, 3, 0, 0, 0, 0, 0);
        Deadlinekeeper z = new Deadlinekeeper();
        z.every(0, 4, 4, 0);
        z.every(0, 4, 4, 0);
        z.run(9);
        traceIs("the second is CUT each time", z, "aaaaaaaaa");
        taskIs("its third", z, 1, 1, 4, 8, 12, 1, 0, 0, 0, 1, -1);
        runIs("its third", z, 1, 0, 0, 2, -1, -1, 0, -1, -1);
        allIs("one ran all the time", z, 9, 0, 1, 2, 2, 3, 0, 0, 0);
    }

    /** What a TASK has done is not the next one's of the same JOB. */
    private static void eachTaskForItself() {
        Deadlinekeeper x = new Deadlinekeeper();
        x.every(0, 2, 8, 5);
        x.once(8, 4, 5, 1, 0);
        x.once(0, 1, 3, 2, 0);
        x.run(9);
        traceIs("each TASK", x, "caa.....b");
        taskIs("the second has not BEGUN", x, 0, 1, 2, 8, 16, 1, 5, 0, 0, 1, -1);
        Check.is("34 LESSER is of one TASK", x.ofRun(0, 5), 1);
        Check.is("34 ANSWER", x.ofRun(0, 3), 3);
        x.run(5);
        traceIs("each TASK", x, "caa.....bbbbaa");
        Check.is("34 the longest ANSWER", x.ofRun(0, 3), 6);
        Check.is("34 when the last was OVER", x.ofRun(0, 4), 14);
        Check.is("35 SWITCHES", x.ofAll(2), 4);
        Deadlinekeeper y = new Deadlinekeeper();
        y.every(0, 4, 8, 0);
        y.once(0, 8, 40, 0, 0);
        y.rules(3, 3, 0, 0);
        y.run(14);
        traceIs("a new TASK has a whole turn", y, "aaabbbabbbaaab");
    }

    private static Deadlinekeeper two(int mode, int aging, int protocol) {
        Deadlinekeeper x = new Deadlinekeeper();
        x.once(0, 8, 40, 1, 0);
        x.once(0, 8, 40, 0, 0);
        x.rules(mode, 2, aging, protocol);
        return x;
    }

    private static void byRankAndAging() {
        Deadlinekeeper x = ran(two(1, 0, 0), 8);
        traceIs("RANK", x, "aaaaaaaa");
        taskIs("it waits", x, 1, 1, 8, 0, 40, 8, 0, 0, 0, 1, -1);
        traceIs("AGING 1", ran(two(1, 1, 0), 6), "aabaab");
        traceIs("AGING 2", ran(two(1, 2, 0), 6), "aaaaba");
        traceIs("AGING with PROTOCOL 1", ran(two(1, 1, 1), 6), "aabaab");
        traceIs("no AGING with PROTOCOL 2", ran(two(1, 1, 2), 6), "aaaaaa");
        traceIs("no AGING in MODE 0", ran(two(0, 1, 0), 6), "aaaaaa");
        Check.is("STRENGTH is told in MODE 0", ran(two(0, 2, 0), 5).ofTask(1, 5), 2);
        Check.is("STRENGTH is told with PROTOCOL 1", ran(two(2, 1, 1), 1).ofTask(1, 5), 1);
        Check.is("STRENGTH with PROTOCOL 2", ran(two(0, 1, 2), 5).ofTask(1, 5), 0);
        Check.is("STRENGTH without AGING", ran(two(0, 0, 0), 5).ofTask(1, 5), 0);
        Deadlinekeeper y = new Deadlinekeeper();
        y.once(0, 2, 9, 4, 0);
        y.once(1, 2, 7, 4, 0);
        y.once(1, 2, 7, 4, 0);
        y.rules(1, 2, 0, 0);
        y.run(6);
        traceIs("of the same STRENGTH the earliest DUE, then the number", y, "abbcca");
        runIs("ANSWER", y, 2, 2, 1, 0, 4, 5, 0, -1, -1);
    }

    private static Deadlinekeeper inverted(int protocol) {
        Deadlinekeeper x = new Deadlinekeeper();
        x.once(0, 4, 40, 1, 0);
        x.once(1, 3, 30, 9, 0);
        x.once(2, 3, 35, 5, 0);
        x.section(0, 0, 0, 3);
        x.section(1, 0, 0, 1);
        x.rules(1, 2, 0, protocol);
        return x;
    }

    private static void lentRanks() {
        Deadlinekeeper x = ran(inverted(0), 2);
        taskIs("it holds", x, 0, 1, 2, 0, 40, 0, 1, 1, 1, 1, -1);
        taskIs("it is BLOCKED", x, 1, 1, 3, 1, 31, 1, 9, 0, 0, 1, 0);
        Check.is("36 holder", x.holder(0), 0);
        x.run(3);
        Check.is("WAITED is as long as it was READY", x.ofTask(1, 4), 4);
        Check.is("36 still", x.holder(0), 0);
        x.run(1);
        Check.is("36 given back at to", x.holder(0), -1);
        x.run(4);
        traceIs("without lending the middle one is ahead", x, "aacccabbba");
        Check.is("LESSER", x.ofRun(1, 5), 2);
        Check.is("LESSER of the middle one", x.ofRun(2, 5), 0);
        allIs("PROTOCOL 0", x, 10, 0, 5, 3, 0, 0, 0, 0, 5);
        Deadlinekeeper y = ran(inverted(1), 2);
        Check.is("33 lent STRENGTH", y.ofTask(0, 5), 9);
        y.run(1);
        Check.is("33 not lent any more", y.ofTask(0, 5), 1);
        y.run(7);
        traceIs("with lending", y, "aaabbbccca");
        Check.is("LESSER", y.ofRun(1, 5), 1);
        Check.is("LESSER of the middle one", y.ofRun(2, 5), 1);
        allIs("PROTOCOL 1", y, 10, 0, 4, 3, 0, 0, 0, 0, 2);
        Deadlinekeeper z = new Deadlinekeeper();
        z.once(0, 3, 40, 0, 0);
        z.once(1, 3, 40, 1, 0);
        z.once(2, 3, 40, 7, 0);
        z.section(0, 0, 0, 3);
        z.section(1, 0, 1, 2);
        z.section(1, 1, 0, 2);
        z.section(2, 1, 0, 1);
        z.rules(1, 2, 0, 1);
        z.run(3);
        traceIs("through another one", z, "aba");
        Check.is("33 lent on", z.ofTask(0, 5) * 100 + z.ofTask(1, 5), 707);
        Check.is("33 no CIRCLE", z.ofAll(6), 0);
        Check.is("35 LOCKS that are held", z.ofAll(7), 3);
    }

    /** STRENGTH is told in each MODE, lent too, but shows in the order of MODE 1 alone. */
    private static void lentInEachMode() {
        for (int mode = 0; mode <= 3; mode++) {
            Deadlinekeeper x = new Deadlinekeeper();
            x.once(0, 4, 20, 1, 0);
            x.once(1, 2, 30, 7, 0);
            x.once(1, 2, 25, 4, 0);
            x.section(0, 2, 0, 4);
            x.section(1, 2, 0, 2);
            x.rules(mode, 5, 0, 1);
            x.run(2);
            Check.is("33 lent in MODE " + mode, x.ofTask(0, 5), 7);
            Check.is("33 its own in MODE " + mode, x.ofTask(1, 5) * 10 + x.ofTask(2, 5), 74);
            Check.is("33 its BLOCKER in MODE " + mode, x.ofTask(1, 9), 0);
            x.run(6);
            traceIs("MODE " + mode, x, new String[] {"aaaaccbb", "aaaabbcc", "accaaabb", "aaaabbcc"}[mode]);
        }
    }

    private static void ceilings() {
        Deadlinekeeper x = ran(inverted(2), 2);
        taskIs("the CEILING blocks", x, 1, 1, 3, 1, 31, 1, 9, 0, 0, 1, 0);
        x.run(1);
        Check.is("36 given back", x.holder(0), -1);
        x.run(7);
        traceIs("PROTOCOL 2", x, "aaabbbccca");
        allIs("PROTOCOL 2", x, 10, 0, 4, 3, 0, 0, 0, 0, 3);
        Check.is("LESSER of the middle one", x.ofRun(2, 5), 1);
        Deadlinekeeper y = inverted(2);
        y.rules(0, 2, 0, 2);
        y.run(3);
        Check.is("no CEILINGS in MODE 0", y.ofTask(2, 9), -1);
        Check.is("but LOCKS", y.ofTask(1, 9), 0);
        Deadlinekeeper z = new Deadlinekeeper();
        z.once(0, 4, 40, 2, 0);
        z.once(1, 1, 30, 2, 0);
        z.once(1, 1, 30, 3, 0);
        z.section(0, 1, 0, 2);
        z.section(0, 0, 1, 3);
        z.rules(1, 2, 0, 2);
        z.run(3);
        traceIs("a CEILING of its RANK blocks, a lesser does not", z, "aca");
        Check.is("36 the second LOCK", z.holder(0) + z.holder(1), -1);
        Check.is("its BLOCKER", z.ofTask(1, 9), 0);
        z.run(2);
        traceIs("then it is free", z, "acaab");
        Deadlinekeeper zero = new Deadlinekeeper();
        zero.once(0, 3, 40, 0, 0);
        zero.once(1, 1, 9, 0, 0);
        zero.section(0, 2, 0, 2);
        zero.rules(1, 2, 0, 2);
        zero.run(3);
        traceIs("a CEILING of 0 blocks RANK 0", zero, "aab");
    }

    /** Two hold LOCKS; the CEILING of the later one's is the greater, whether its number is smaller or not. */
    private static void greatestCeiling() {
        for (int lock = 0; lock < 2; lock++) {
            Deadlinekeeper x = new Deadlinekeeper();
            x.once(0, 8, 40, 2, 0);
            x.once(1, 8, 40, 5, 0);
            x.once(2, 1, 9, 1, 0);
            x.once(2, 1, 9, 3, 0);
            x.section(0, 1 - lock, 0, 8);
            x.section(1, lock, 0, 8);
            x.rules(1, 2, 0, 2);
            x.run(3);
            traceIs("the second takes its LOCK", x, "abb");
            Check.is("33 the greatest CEILING", x.ofTask(2, 9), 1);
            Check.is("33 the only CEILING", x.ofTask(3, 9), 1);
            Check.is("33 who has BEGUN is not BLOCKED", x.ofTask(0, 9), -1);
        }
    }

    private static void circles() {
        Deadlinekeeper x = new Deadlinekeeper();
        for (int job = 0; job < 4; job++) {
            x.once(job, 4, 30, job, 0);
            x.section(job, job == 3 ? 2 : job, 0, 4);
        }
        x.section(0, 1, 1, 2);
        x.section(1, 2, 1, 2);
        x.section(2, 0, 1, 2);
        x.rules(1, 2, 0, 1);
        x.run(5);
        traceIs("three wait for each other, the fourth for one of them", x, "abc..");
        Check.is("35 CIRCLE", x.ofAll(6), 7);
        Check.is("its BLOCKER", x.ofTask(3, 9), 2);
        for (int job = 0; job < 4; job++) {
            Check.is("33 STRENGTH round in a CIRCLE", x.ofTask(job, 5), 3);
        }
        Check.is("35 LOCKS", x.ofAll(7), 7);
        Check.is("35 BLOCKED in all", x.ofAll(8), 9);
        x.again();
        Check.is("35 no CIRCLE at 0", x.ofAll(6), 0);
        x.run(30);
        Check.is("35 CIRCLE", x.ofAll(6), 7);
        Check.is("36 the first is not CUT yet", x.holder(0), 0);
        x.run(1);
        Check.is("31 then who waited for its LOCK runs", x.ran(30), 2);
        Check.is("35 no CIRCLE any more", x.ofAll(6), 0);
        Deadlinekeeper y = new Deadlinekeeper();
        y.once(0, 4, 30, 5, 0);
        y.once(0, 4, 30, 4, 0);
        y.once(0, 4, 30, 3, 0);
        y.section(0, 3, 0, 4);
        y.section(1, 1, 0, 4);
        y.section(2, 1, 0, 1);
        y.section(2, 3, 0, 1);
        y.rules(2, 2, 0, 0);
        y.run(3);
        traceIs("two hold", y, "aba");
        Check.is("the BLOCKER holds the smallest LOCK", y.ofTask(2, 9), 1);
    }

    private static void shares() {
        Deadlinekeeper x = new Deadlinekeeper();
        x.once(0, 8, 40, 0, 0);
        x.once(0, 8, 40, 1, 0);
        x.rules(2, 2, 0, 0);
        x.run(9);
        traceIs("USED / (RANK + 1)", x, "abbabbabb");
        Deadlinekeeper y = new Deadlinekeeper();
        y.once(0, 8, 40, 2, 0);
        y.once(0, 8, 39, 1, 0);
        y.once(3, 2, 2, 9, 0);
        y.rules(2, 2, 0, 0);
        y.run(8);
        traceIs("not rounded", y, "abaccbaa");
        Deadlinekeeper z = new Deadlinekeeper();
        z.every(0, 2, 4, 0);
        z.every(0, 2, 4, 0);
        z.once(4, 2, 9, 0, 0);
        z.rules(2, 2, 0, 0);
        z.run(8);
        traceIs("USED is of all its TASKS", z, "ababccab");
    }

    private static void turns() {
        Deadlinekeeper x = new Deadlinekeeper();
        x.once(0, 3, 40, 0, 0);
        x.once(0, 3, 30, 9, 0);
        x.once(2, 1, 20, 9, 0);
        x.rules(3, 2, 0, 0);
        Check.noIndex("37 nobody has come", () -> x.queued(0));
        x.run(2);
        Check.is("37 to the end again", x.queued(0) * 10 + x.queued(1), 10);
        Check.noIndex("37 no third", () -> x.queued(2));
        x.run(2);
        Check.is("37 who comes is behind", x.queued(0) * 100 + x.queued(1) * 10 + x.queued(2), 21);
        x.run(1);
        Check.is("37 who is OVER is out", x.queued(0) * 10 + x.queued(1), 21);
        x.run(2);
        traceIs("turns of two", x, "aabbacb");
        Check.noIndex("37 all are OVER", () -> x.queued(0));
        Check.noIndex("37 -1", () -> x.queued(-1));
        Check.noIndex("37 far", () -> x.queued(Integer.MIN_VALUE));
        Deadlinekeeper y = new Deadlinekeeper();
        y.once(0, 5, 40, 0, 0);
        y.once(0, 5, 3, 0, 0);
        y.once(0, 5, 40, 0, 0);
        y.rules(3, 1, 0, 0);
        y.run(3);
        Check.is("37 still there", y.queued(1), 1);
        y.run(1);
        traceIs("turns of one", y, "abca");
        Check.is("37 who is CUT is out", y.queued(0) * 10 + y.queued(1), 20);
        Check.noIndex("37 who is CUT is out", () -> y.queued(2));
        y.again();
        y.rules(0, 1, 0, 0);
        y.run(2);
        Check.noIndex("37 empty in another MODE", () -> y.queued(0));
    }

    private static void turnsInAll() {
        Deadlinekeeper x = new Deadlinekeeper();
        x.once(0, 4, 40, 0, 0);
        x.once(0, 4, 40, 0, 0);
        x.budget(0, 1, 2);
        x.rules(3, 2, 0, 0);
        x.run(3);
        traceIs("who is not READY is passed over", x, "aba");
        Check.is("37 two minutes in all", x.queued(0) * 10 + x.queued(1), 10);
        Deadlinekeeper y = new Deadlinekeeper();
        y.once(0, 4, 40, 0, 0);
        y.once(0, 4, 40, 0, 0);
        y.once(0, 4, 40, 0, 0);
        y.section(0, 0, 0, 2);
        y.section(1, 0, 0, 4);
        y.rules(3, 1, 0, 0);
        y.run(2);
        Check.is("37 who is BLOCKED keeps its place", y.queued(0) * 100 + y.queued(1) * 10 + y.queued(2), 102);
        y.run(2);
        traceIs("then it runs", y, "acab");
    }

    private static void turnsOfTwelve() {
        Deadlinekeeper x = new Deadlinekeeper();
        for (int job = 0; job < 12; job++) {
            x.once(0, 2, 40, 0, 0);
            x.budget(job, 1, 30);
        }
        x.rules(3, 1, 0, 0);
        x.run(14);
        traceIs("a full QUEUE in which nobody is READY", x, "abcdefghijkl..");
        for (int k = 0; k < 12; k++) {
            Check.is("37 all are in it", x.queued(k), k);
        }
        Check.noIndex("37 no thirteenth", () -> x.queued(12));
        x.run(30);
        traceIs("then it goes on", x, "abcdefghijkl..................abcdefghij..");
        Check.is("35 two were CUT", x.ofAll(4), 2);
    }

    private static void budgets() {
        Deadlinekeeper x = new Deadlinekeeper();
        x.once(0, 6, 40, 3, 0);
        x.budget(0, 2, 5);
        runIs("full", x, 0, 0, 0, 0, -1, -1, 0, 2, -1);
        x.run(1);
        taskIs("it has BEGUN", x, 0, 1, 5, 0, 40, 0, 3, 0, 1, 1, -1);
        runIs("one is left", x, 0, 1, 0, 0, -1, -1, 0, 1, 5);
        x.run(1);
        taskIs("it has run out", x, 0, 1, 4, 0, 40, 0, 3, 0, 0, 0, -1);
        runIs("none is left", x, 0, 2, 0, 0, -1, -1, 0, 0, 5);
        Check.is("empty till then", x.run(3), 3);
        Check.is("who is not READY does not wait", x.ofTask(0, 4), 0);
        runIs("c. of the next minute is not done", x, 0, 2, 0, 0, -1, -1, 0, 0, 5);
        x.run(1);
        taskIs("BEGUN again", x, 0, 1, 3, 0, 40, 0, 3, 0, 1, 1, -1);
        runIs("full again and used", x, 0, 3, 0, 0, -1, -1, 0, 1, 10);
        x.run(9);
        traceIs("by its BUDGET", x, "aa...aa...aa...");
        runIs("not full yet", x, 0, 6, 1, 0, 12, 12, 0, 0, 15);
        x.run(1);
        runIs("full, though nothing is there", x, 0, 6, 1, 0, 12, 12, 0, 2, -1);
        Deadlinekeeper y = new Deadlinekeeper();
        y.every(0, 3, 4, 3);
        y.budget(0, 3, 2);
        y.run(3);
        runIs("full again ahead of its running out", y, 0, 3, 1, 0, 3, 3, 0, 2, 4);
        Deadlinekeeper z = new Deadlinekeeper();
        z.every(0, 2, 4, 3);
        z.budget(0, 3, 30);
        z.run(29);
        runIs("the BUDGET is that of the JOB, not of a TASK", z, 0, 3, 1, 6, 2, 2, 0, 0, 30);
        z.run(1);
        z.run(1);
        runIs("and full at 30", z, 0, 4, 1, 6, 2, 2, 0, 2, 60);
    }

    private static void budgetsAndCeilings() {
        Deadlinekeeper x = new Deadlinekeeper();
        x.once(0, 4, 40, 5, 0);
        x.once(0, 4, 40, 1, 0);
        x.once(30, 1, 9, 9, 0);
        x.budget(0, 2, 4);
        x.section(1, 0, 0, 4);
        x.section(2, 0, 0, 1);
        x.rules(1, 2, 0, 2);
        x.run(5);
        traceIs("whose BUDGET ran out has not BEGUN", x, "aabbb");
        taskIs("so the CEILING blocks it", x, 0, 1, 2, 0, 40, 1, 5, 0, 0, 1, 1);
        Check.is("LESSER also with a BUDGET", x.ofRun(0, 5), 1);
        Deadlinekeeper y = new Deadlinekeeper();
        y.once(1, 4, 39, 5, 0);
        y.once(0, 4, 40, 1, 0);
        y.budget(0, 2, 4);
        y.rules(1, 2, 0, 2);
        y.run(8);
        traceIs("without a LOCK nothing blocks it", y, "baabbaab");
    }

    private static void neededJobs() {
        Deadlinekeeper x = new Deadlinekeeper();
        x.once(0, 2, 9, 0, 0);
        x.once(0, 1, 1, 9, 0);
        x.once(0, 1, 40, 5, 0);
        x.once(0, 1, 40, 6, 0);
        x.needs(2, 0, true);
        x.needs(3, 1, true);
        x.needs(1, 0, true);
        x.rules(1, 2, 1, 0);
        x.run(1);
        taskIs("not READY", x, 2, 1, 1, 0, 40, 0, 5, 0, 0, 0, -1);
        x.run(1);
        taskIs("READY behind it", x, 2, 1, 1, 0, 40, 0, 5, 0, 0, 1, -1);
        taskIs("who needs one that was CUT", x, 3, 1, 1, 0, 40, 0, 6, 0, 0, 0, -1);
        x.run(40);
        traceIs("it runs", x, "aac.....");
        allIs("who needs one that was CUT is CUT", x, 42, 39, 2, 2, 2, 0, 0, 0, 0);
    }

    private static void locksOfTheCut() {
        Deadlinekeeper x = new Deadlinekeeper();
        x.once(0, 4, 2, 3, 0);
        x.once(1, 1, 9, 3, 0);
        x.section(0, 0, 0, 4);
        x.section(0, 2, 1, 2);
        x.section(0, 3, 1, 3);
        x.section(1, 0, 0, 1);
        x.run(1);
        Check.is("36 one", x.ofAll(7), 1);
        x.run(1);
        Check.is("36 two", x.ofAll(7), 9);
        Check.is("33 its LOCKS", x.ofTask(0, 6), 9);
        Check.is("33 BLOCKED", x.ofTask(1, 9), 0);
        Check.is("36 free at its to", x.holder(2), -1);
        x.run(1);
        traceIs("the CUT one's LOCK is free at once", x, "aab");
        Check.is("36 free", x.holder(0) + x.holder(3) + x.ofAll(7), -2);
    }

    private static void wrongQuestions() {
        Deadlinekeeper x = new Deadlinekeeper();
        x.once(0, 4, 2, 3, 0);
        taskIs("33 nothing is there at 0", x, 0, 0, -1, -1, -1, -1, -1, -1, -1, -1, -1);
        runIs("34 nothing was run at 0", x, 0, 0, 0, 0, -1, -1, 0, -1, -1);
        allIs("35 nothing was run at 0", x, 0, 0, 0, 0, 0, 0, 0, 0, 0);
        Check.noIndex("33 no job", () -> x.ofTask(1, 0));
        Check.noIndex("33 -1", () -> x.ofTask(-1, 10));
        Check.noArgument("33 what -1", () -> x.ofTask(0, -1));
        Check.noArgument("33 what 10", () -> x.ofTask(0, 10));
        Check.noIndex("34 no job", () -> x.ofRun(1, 0));
        Check.noIndex("34 -1", () -> x.ofRun(-1, 8));
        Check.noArgument("34 what -1", () -> x.ofRun(0, -1));
        Check.noArgument("34 what 8", () -> x.ofRun(0, 8));
        Check.noArgument("35 what -1", () -> x.ofAll(-1));
        Check.noArgument("35 what 9", () -> x.ofAll(9));
        Check.noIndex("36 lock -1", () -> x.holder(-1));
        Check.noIndex("36 lock 4", () -> x.holder(4));
        for (int lock = 0; lock < 4; lock++) {
            Check.is("36 free", x.holder(lock), -1);
        }
    }
}
