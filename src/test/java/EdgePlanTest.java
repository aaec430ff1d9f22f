import java.util.ArrayList;
import java.util.List;

/** The edges that the document names for the PLAN and for what can be told ahead: none, the most, one beyond. */
public final class EdgePlanTest {
    interface Step {
        int tell(Deadlinekeeper x);
    }

    public static void main(String[] args) {
        noJob();
        noOnceJob();
        twelveOnceJobs();
        twelveRepeatingJobs();
        twelveInAChain();
        numbersAreTakenAgain();
        noStep();
        aNinthStep();
        stepsGoRound();
        noStepWithoutDoing();
        eightAndNine();
        eightAndNineWithoutGain();
        stretchesOfNoLength();
        stretchesOfOnceJobs();
        farthestTimes();
        sections();
        everySectionComesBack();
        budgetOrSection();
        struckEmptyAndFilledAgain();
        struckEmptyLeavesNoNeed();
        Check.done("EdgePlanTest");
    }

    /** What the PLAN is and what is told ahead, without how many STEPS can be undone. */
    private static String told(Deadlinekeeper x) {
        StringBuilder text = new StringBuilder();
        for (int what = 0; what <= 6; what++) {
            text.append(' ').append(x.plan(what));
        }
        for (int lock = 0; lock < 4; lock++) {
            text.append(" ceiling ").append(x.ceiling(lock));
        }
        for (int job = 0; job < 12; job++) {
            if ((x.plan(1) >> job & 1) != 0) {
                text.append(" job ").append(job);
                for (int what = 0; what <= 9; what++) {
                    text.append(' ').append(x.ofJob(job, what));
                }
                for (int lock = 0; lock < 4; lock++) {
                    text.append(' ').append(x.ofSection(job, lock, false)).append(' ').append(x.ofSection(job, lock, true));
                }
                text.append((x.plan(2) >> job & 1) == 0 ? "r " + x.response(job) : "e " + x.end(job));
            }
        }
        text.append(" ahead ").append(x.crowd(0)).append(' ').append(x.late()).append(' ').append(x.last());
        return text.append(' ').append(x.share()).append(' ').append(x.cutting(false, 0)).toString();
    }

    private static void rowIs(String name, String want, int... got) {
        StringBuilder text = new StringBuilder();
        for (int g : got) {
            text.append(text.length() == 0 ? "" : " ").append(g);
        }
        Check.is(name, text.toString(), want);
    }

    // ---- none, and the most

    private static void noJob() {
        Deadlinekeeper x = new Deadlinekeeper();
        nothingAhead("no JOB", x);
        rowIs("15 no JOB", "0 0 0 0 2 0 0 0", x.plan(0), x.plan(1), x.plan(2), x.plan(3), x.plan(4), x.plan(5), x.plan(6),
                x.plan(7));
        rowIs("16 no JOB", "-9 -9", x.edge(false), x.edge(true));
        rowIs("17 no JOB", "-1 -1 -1 -1", x.near(0, 0), x.near(300, 1), x.near(0, 2), x.near(300, 3));
        rowIs("19, 27 no JOB", "0 0", x.work(0, 300), x.share());
        for (int mode = 0; mode < 4; mode++) {
            x.rules(mode, 1, 1, 1);
            Check.is("10 no JOB", x.run(60), 60);
            rowIs("35 no JOB", "60 60 0 0 0 0 0 0 0", x.ofAll(0), x.ofAll(1), x.ofAll(2), x.ofAll(3), x.ofAll(4),
                    x.ofAll(5), x.ofAll(6), x.ofAll(7), x.ofAll(8));
            Check.is("32 no JOB", x.trace(0, 60), ".".repeat(60));
            Check.is("39 no JOB", x.isSound(), true);
            Check.is("11 no JOB", x.again(), 60);
        }
    }

    private static void nothingAhead(String name, Deadlinekeeper x) {
        rowIs("18 " + name, "0 0", x.load(0, 300), x.load(0, 0));
        rowIs("20 " + name, "0 -1 -1", x.crowd(0), x.crowd(1), x.crowd(2));
        rowIs("22, 29 " + name, "0 0", x.late(), x.last());
        rowIs("23 " + name, "300 0 100", x.idle(0, 300), x.idle(300, 300), x.idle(60, 160));
        rowIs("24 " + name, "0 60 300", x.nextIdle(0), x.nextIdle(60), x.nextIdle(300));
        rowIs("25 " + name, "0 0 0", x.pick(0), x.pick(1), x.pick(2));
        rowIs("26 " + name, "0 0 0 0", x.cutting(false, 0), x.cutting(false, 1), x.cutting(true, 0), x.cutting(true, 1));
        Check.is("15 set of ONCE jobs, " + name, x.plan(2), 0);
    }

    private static void noOnceJob() {
        Deadlinekeeper x = new Deadlinekeeper();
        for (int job = 0; job < 12; job++) {
            x.every(job, 4, 4, 9);
        }
        nothingAhead("REPEATING jobs alone", x);
        Deadlinekeeper y = new Deadlinekeeper();
        y.every(0, 8, 8, 0);
        y.once(0, 8, 1, 0, 99);
        y.strike(1);
        nothingAhead("the only ONCE job was struck", y);
        y.every(0, 8, 8, 0);
        nothingAhead("its number is a REPEATING one's", y);
        y.undo();
        y.undo();
        Check.is("20 it is back", y.crowd(0), 7);
        y.undo();
        nothingAhead("it was undone", y);
    }

    private static void twelveOnceJobs() {
        Deadlinekeeper x = new Deadlinekeeper();
        for (int job = 0; job < 12; job++) {
            Check.is("2 number", x.once(60, 8, 40, job % 10, job), job);
            Check.is("21 END of the last", x.end(job), 68 + 8 * job);
        }
        Check.noState("2 a thirteenth", () -> x.once(0, 1, 1, 0, 0));
        Check.noState("3 a thirteenth", () -> x.every(0, 1, 4, 0));
        rowIs("15 twelve", "12 4095 4095 8", x.plan(0), x.plan(1), x.plan(2), x.plan(7));
        rowIs("20 twelve", "56 60 100", x.crowd(0), x.crowd(1), x.crowd(2));
        Check.is("21 at DUE is not LATE", x.end(4), 100);
        Check.is("22 twelve", x.late(), 4095 - 31);
        rowIs("18 twelve", "96 0 0 96", x.load(60, 100), x.load(61, 100), x.load(60, 99), x.load(0, 300));
        rowIs("23 twelve", "60 0 1 144", x.idle(0, 60), x.idle(60, 156), x.idle(155, 157), x.idle(156, 300));
        rowIs("24 twelve", "59 156 156 156", x.nextIdle(59), x.nextIdle(60), x.nextIdle(155), x.nextIdle(156));
        rowIs("26 twelve", "127 45 127 45", x.cutting(false, 0), x.cutting(false, 1), x.cutting(true, 0),
                x.cutting(true, 1));
        Check.is("29 twelve", x.last(), 48);
        rowIs("30 the last one on 0", "40 48 -1 -1", x.piece(5, 0, false), x.piece(5, 0, true), x.piece(5, 1, false),
                x.piece(5, 1, true));
        rowIs("30 the first one on 1", "-1 -1 0 8", x.piece(6, 0, false), x.piece(6, 0, true), x.piece(6, 1, false),
                x.piece(6, 1, true));
        rowIs("30 the last one", "40 48", x.piece(11, 1, false), x.piece(11, 1, true));
        Check.is("39 twelve", x.isSound(), true);
    }

    private static void twelveRepeatingJobs() {
        Deadlinekeeper x = new Deadlinekeeper();
        for (int job = 0; job < 12; job++) {
            x.every(0, 1, 12, 3);
        }
        Check.is("27 twelve", x.share(), 120);
        Check.is("28 as long as PERIOD", x.response(11), 12);
        Check.is("19 twelve", x.work(0, 13), 24);
        Check.is("10 no minute is empty", x.run(60), 0);
        Check.is("32 twelve", x.trace(48, 60), "abcdefghijkl");
        rowIs("35 twelve", "60 0 60 60 0 0", x.ofAll(0), x.ofAll(1), x.ofAll(2), x.ofAll(3), x.ofAll(4), x.ofAll(5));
        Check.is("34 ANSWER of the last", x.ofRun(11, 3), 12);
        Check.is("39 share 120", x.isSound(), true);
        x.again();
        x.strike(0);
        x.every(0, 2, 12, 3);
        Check.is("28 one more than PERIOD", x.response(11), -1);
        Check.is("28 the longer one too", x.response(0), -1);
        Check.is("27 more than 120", x.share(), 130);
        x.run(60);
        Check.is("35 then there are CUT ones", x.ofAll(4), 4);
        Check.is("39 more than 120", x.isSound(), true);
    }

    private static void twelveInAChain() {
        Deadlinekeeper x = new Deadlinekeeper();
        for (int job = 0; job < 12; job++) {
            x.once(0, 1, 40, 0, 0);
        }
        for (int job = 0; job < 11; job++) {
            Check.is("5 chain", x.needs(job, job + 1, true), 0);
        }
        for (int job = 0; job < 12; job++) {
            Check.is("12 itself", x.ofJob(job, 6), job == 11 ? 0 : 2 << job);
            Check.is("12 through others", x.ofJob(job, 7), 4095 - (1 << job) - ((1 << job) - 1));
        }
        for (int job = 1; job < 12; job++) {
            for (int other = 0; other < job; other++) {
                Check.is("5 nobody needs itself, not through others", x.needs(job, other, true), -9);
            }
        }
        Check.is("15 that were no STEPS", x.plan(7), 8);
        x.run(12);
        Check.is("32 chain", x.trace(0, 12), "lkjihgfedcba");
        x.again();
        x.needs(5, 6, false);
        Check.is("5 the chain is cut", x.needs(11, 0, true), 0);
        Check.is("12 the other way round", x.ofJob(6, 7), 0b111110111111 & ~(1 << 6));
        Check.is("5 now this is round", x.needs(5, 6, true), -9);
    }

    private static void numbersAreTakenAgain() {
        Deadlinekeeper x = new Deadlinekeeper();
        for (int job = 0; job < 12; job++) {
            x.once(job, 1, 1, 0, 0);
        }
        Check.is("4 left", x.strike(11), 11);
        Check.is("4 left", x.strike(0), 10);
        Check.is("4 left", x.strike(5), 9);
        Check.is("2 the smallest that is free", x.once(20, 1, 1, 0, 0), 0);
        Check.is("3 the smallest that is free", x.every(21, 1, 4, 0), 5);
        Check.is("2 the last that is free", x.once(22, 1, 1, 0, 0), 11);
        Check.noState("2 none is free", () -> x.once(0, 1, 1, 0, 0));
        rowIs("12 COMES", "20 21 22", x.ofJob(0, 0), x.ofJob(5, 0), x.ofJob(11, 0));
        rowIs("16 edges", "1 22", x.edge(false), x.edge(true));
    }

    // ---- STEPS

    private static List<Step> steps() {
        List<Step> steps = new ArrayList<>();
        steps.add(x -> x.once(3, 4, 9, 2, 11));
        steps.add(x -> x.every(1, 2, 8, 6));
        steps.add(x -> x.once(5, 3, 12, 4, 22));
        steps.add(x -> x.needs(0, 2, true));
        steps.add(x -> x.section(0, 3, 1, 4));
        steps.add(x -> x.budget(1, 2, 7));
        steps.add(x -> x.rules(1, 3, 4, 2));
        steps.add(x -> x.strike(2));
        steps.add(x -> x.every(9, 5, 20, 8));
        steps.add(x -> x.section(2, 3, 0, 5));
        steps.add(x -> x.section(0, 3, 2, 2));
        steps.add(x -> x.budget(1, 0, 2));
        steps.add(x -> x.section(1, 1, 0, 2));
        steps.add(x -> x.rules(2, 1, 0, 0));
        steps.add(x -> x.strike(1));
        steps.add(x -> x.once(8, 1, 1, 9, 99));
        steps.add(x -> x.needs(0, 1, true));
        steps.add(x -> x.needs(0, 1, false));
        steps.add(x -> x.strike(0));
        steps.add(x -> x.once(60, 8, 1, 0, 5));
        return steps;
    }

    private static Deadlinekeeper after(int count) {
        Deadlinekeeper x = new Deadlinekeeper();
        for (int k = 0; k < count; k++) {
            Check.is("9 STEP " + k + " is done", steps().get(k).tell(x) != -9, true);
        }
        return x;
    }

    private static void noStep() {
        Deadlinekeeper x = new Deadlinekeeper();
        String first = told(x);
        Check.noState("9 no STEP", x::undo);
        x.run(1);
        Check.noState("9 no STEP, NOW above 0", x::undo);
        x.again();
        Check.noState("9 no STEP still", x::undo);
        x.rules(0, 2, 0, 0);
        Check.is("9 a STEP that changes nothing", x.plan(7), 1);
        Check.is("9 is undone", x.undo(), 0);
        Check.noState("9 an undo is no STEP", x::undo);
        Check.is("9 nothing changed", told(x), first);
    }

    /** Each STEP is once the ninth, once the last, and once the oldest that is not forgotten. */
    private static void aNinthStep() {
        for (int count = 1; count <= steps().size(); count++) {
            Deadlinekeeper x = after(count);
            int most = Math.min(count, 8);
            Check.is("15 STEPS after " + count, x.plan(7), most);
            for (int k = 1; k <= most; k++) {
                Check.is("9 undo after " + count, x.undo(), most - k);
                Check.is("15 after it", x.plan(7), most - k);
                Check.is("9 the PLAN after " + count + ", undone " + k, told(x), told(after(count - k)));
            }
            Check.noState("9 what was ahead is forgotten", x::undo);
            Check.is("9 that changes nothing", told(x), told(after(count - most)));
        }
    }

    private static void stepsGoRound() {
        for (int undone = 0; undone <= 8; undone++) {
            for (int anew = 0; anew <= 9; anew++) {
                Deadlinekeeper x = after(11);
                for (int k = 0; k < undone; k++) {
                    x.undo();
                }
                for (int k = 0; k < anew; k++) {
                    x.rules(k % 4, 1 + k % 5, k, k % 3);
                }
                int left = Math.min(8 - undone + anew, 8);
                Check.is("15 STEPS, " + undone + " undone, " + anew + " anew", x.plan(7), left);
                for (int k = 0; k < Math.min(anew, 8); k++) {
                    x.undo();
                }
                Deadlinekeeper y = after(11 - undone);
                if (anew == 9) {
                    y.rules(0, 1, 0, 0);
                }
                Check.is("9 as it was, " + undone + " undone, " + anew + " anew", told(x), told(y));
                Check.is("15 STEPS left", x.plan(7), left - Math.min(anew, 8));
            }
        }
    }

    /** A call that is refused or tells -9 is no STEP, at 8 of them neither: the oldest is not forgotten for it. */
    private static void noStepWithoutDoing() {
        Deadlinekeeper x = new Deadlinekeeper();
        x.rules(3, 3, 3, 1);
        for (int job = 0; job < 6; job++) {
            x.once(job, 1, 40, 0, 0);
        }
        x.needs(0, 1, true);
        Check.is("15 STEPS", x.plan(7), 8);
        Check.is("5 round", x.needs(1, 0, true), -9);
        Check.noArgument("2 refused", () -> x.once(61, 1, 1, 0, 0));
        Check.noArgument("8 refused", () -> x.rules(4, 1, 0, 0));
        Check.noIndex("4 refused", () -> x.strike(6));
        Check.noArgument("6 refused", () -> x.section(0, 0, 1, 0));
        for (int left = 7; left >= 0; left--) {
            Check.is("9 all eight are there", x.undo(), left);
        }
        Check.is("9 as a new one", told(x), told(new Deadlinekeeper()));
        x.once(0, 1, 1, 0, 0);
        x.once(0, 1, 1, 0, 0);
        x.needs(0, 1, false);
        x.section(0, 1, 0, 0);
        x.budget(0, 0, 2);
        x.rules(0, 2, 0, 0);
        Check.is("15 who changes nothing is a STEP", x.plan(7), 6);
        x.needs(0, 1, true);
        Check.is("5 it did so before", x.needs(0, 1, true), 1);
        Check.is("15 also a STEP", x.plan(7), 8);
        Check.is("9 back", x.undo(), 7);
        Check.is("12 it needs it still", x.ofJob(0, 6), 2);
        Check.is("9 back", x.undo(), 6);
        Check.is("12 not any more", x.ofJob(0, 6), 0);
    }

    // ---- eight ONCE jobs, and nine

    private static void keptIs(String name, Deadlinekeeper x, String want) {
        rowIs("26 " + name, want, x.cutting(false, 0), x.cutting(false, 1), x.cutting(true, 0), x.cutting(true, 1));
    }

    /** REPEATING jobs do not count, and the numbers may be any: the eight are 4 to 11 here. */
    private static void eightAndNine() {
        Deadlinekeeper x = new Deadlinekeeper();
        for (int job = 0; job < 4; job++) {
            x.every(0, 4, 4, 0);
        }
        x.once(0, 8, 8, 0, 10);
        x.once(0, 2, 8, 0, 6);
        x.once(0, 2, 8, 0, 7);
        keptIs("three", x, "16 13 96 10");
        for (int k = 0; k < 4; k++) {
            x.once(20 + 2 * k, 1, 2, 0, 1);
        }
        keptIs("seven", x, "16 17 96 14");
        x.once(30, 1, 2, 0, 1);
        keptIs("eight", x, "16 18 96 15");
        Check.is("39 eight", x.isSound(), true);
        x.strike(0);
        keptIs("eight, with one REPEATING job less", x, "16 18 96 15");
        Check.is("2 the ninth", x.once(40, 1, 2, 0, 1), 0);
        keptIs("nine", x, "96 16 96 16");
        Check.is("39 nine", x.isSound(), true);
        x.strike(5);
        keptIs("eight, another one less", x, "64 16 64 16");
        x.undo();
        keptIs("nine again", x, "96 16 96 16");
        x.undo();
        keptIs("eight again", x, "16 18 96 15");
        Deadlinekeeper y = new Deadlinekeeper();
        for (int job = 0; job < 8; job++) {
            y.once(0, 8, 8, 0, job == 7 ? 2 : 1);
        }
        keptIs("of eight the last alone", y, "127 2 127 2");
        y.strike(7);
        keptIs("of seven alike best is the smallest number", y, "126 1 63 1");
    }

    /** At best nobody without GAIN is KEPT, as the set without it is the smaller number; by rule all are, if they can. */
    private static void eightAndNineWithoutGain() {
        Deadlinekeeper x = new Deadlinekeeper();
        for (int job = 0; job < 8; job++) {
            x.once(2 * job, 1, 2, 0, 0);
        }
        keptIs("eight without GAIN", x, "255 0 0 0");
        x.once(40, 1, 1, 0, 0);
        keptIs("nine without GAIN", x, "0 0 0 0");
        x.undo();
        keptIs("eight again", x, "255 0 0 0");
    }

    // ---- stretches

    private static void stretchesOfNoLength() {
        for (int time = 0; time <= 300; time++) {
            Deadlinekeeper x = new Deadlinekeeper();
            x.once(0, 8, 1, 0, 0);
            x.once(60, 8, 40, 0, 0);
            x.every(0, 8, 8, 0);
            rowIs("from as to, " + time, "0 0 0", x.load(time, time), x.work(time, time), x.idle(time, time));
            if (time > 0) {
                rowIs("from above to, " + time, "-9 -9 -9", x.load(time, time - 1), x.work(time, time - 1),
                        x.idle(time, time - 1));
                rowIs("from far above to, " + time, "-9 -9 -9", x.load(time, 0), x.work(time, 0), x.idle(time, 0));
            }
        }
    }

    /** A stretch begins at the COMES of one and ends at the DUE of one, and has to begin ahead of its end. */
    private static void stretchesOfOnceJobs() {
        Deadlinekeeper x = new Deadlinekeeper();
        x.once(5, 1, 5, 0, 0);
        x.once(0, 1, 5, 0, 0);
        rowIs("20 from 5 to 5 is none", "0 -1 -1", x.crowd(0), x.crowd(1), x.crowd(2));
        x.once(0, 5, 5, 0, 0);
        rowIs("20 one too many", "1 0 5", x.crowd(0), x.crowd(1), x.crowd(2));
        x.once(5, 5, 5, 0, 0);
        rowIs("20 the longer of the same CROWD is not it", "2 0 10", x.crowd(0), x.crowd(1), x.crowd(2));
        Deadlinekeeper y = new Deadlinekeeper();
        y.once(0, 3, 2, 0, 0);
        y.once(10, 3, 2, 0, 0);
        rowIs("20 of the same CROWD the smallest s", "1 0 2", y.crowd(0), y.crowd(1), y.crowd(2));
        y.once(0, 1, 3, 0, 0);
        rowIs("20 of the same s the smallest t", "1 0 2", y.crowd(0), y.crowd(1), y.crowd(2));
        rowIs("18 DUE at t", "3 4 0", y.load(0, 2), y.load(0, 3), y.load(0, 1));
        rowIs("18 COMES at s", "3 0", y.load(10, 12), y.load(11, 12));
        Deadlinekeeper z = new Deadlinekeeper();
        z.once(0, 1, 1, 0, 5);
        z.once(1, 1, 1, 0, 5);
        rowIs("20 a CROWD of 0", "0 -1 -1", z.crowd(0), z.crowd(1), z.crowd(2));
        rowIs("25 is FEASIBLE", "3 10 2", z.pick(0), z.pick(1), z.pick(2));
        z.once(0, 1, 2, 0, 5);
        rowIs("20 a CROWD of 1", "1 0 2", z.crowd(0), z.crowd(1), z.crowd(2));
        rowIs("25 is not", "3 10 2", z.pick(0), z.pick(1), z.pick(2));
    }

    private static void farthestTimes() {
        Deadlinekeeper x = new Deadlinekeeper();
        Check.is("2 the latest", x.once(60, 1, 40, 0, 0), 0);
        Check.is("2 the earliest", x.once(0, 1, 1, 0, 0), 1);
        rowIs("12 DUE", "100 1", x.ofJob(0, 3), x.ofJob(1, 3));
        rowIs("16 edges", "0 60", x.edge(false), x.edge(true));
        rowIs("17 at 60", "60 0 60 -1", x.near(60, 0), x.near(60, 1), x.near(60, 2), x.near(60, 3));
        rowIs("17 at 0", "0 -1 0 60", x.near(0, 0), x.near(0, 1), x.near(0, 2), x.near(0, 3));
        rowIs("17 at 300", "60 60 -1 -1", x.near(300, 0), x.near(300, 1), x.near(300, 2), x.near(300, 3));
        rowIs("18 at 100", "1 0 0", x.load(60, 100), x.load(60, 99), x.load(61, 100));
        Deadlinekeeper y = new Deadlinekeeper();
        y.every(60, 3, 60, 0);
        rowIs("19 at 60, 120, ..", "0 3 3 6 12 3 0", y.work(0, 60), y.work(0, 61), y.work(61, 121), y.work(60, 121),
                y.work(0, 300), y.work(240, 241), y.work(241, 300));
        Deadlinekeeper z = new Deadlinekeeper();
        z.every(59, 1, 60, 0);
        rowIs("19 at 299", "5 1 4 0", z.work(0, 300), z.work(299, 300), z.work(0, 299), z.work(300, 300));
        z.every(0, 1, 4, 0);
        rowIs("19 75 times", "75 80", z.work(0, 300) - 5, z.work(0, 300));
    }

    // ---- SECTIONS and BUDGETS

    private static void sections() {
        Deadlinekeeper x = new Deadlinekeeper();
        x.once(0, 1, 9, 0, 0);
        x.every(0, 8, 8, 9);
        for (int lock = 0; lock < 4; lock++) {
            Check.is("6 one of each LOCK", x.section(1, lock, 2 * lock, 2 * lock + 2), lock + 1);
            rowIs("13 of it", 2 * lock + " " + (2 * lock + 2), x.ofSection(1, lock, false), x.ofSection(1, lock, true));
        }
        Check.is("6 in place of that before", x.section(1, 3, 0, 8), 4);
        rowIs("13 all of it", "0 8", x.ofSection(1, 3, false), x.ofSection(1, 3, true));
        Check.is("6 of LENGTH 1", x.section(0, 3, 0, 1), 1);
        rowIs("14 CEILINGS", "9 9 9 9", x.ceiling(0), x.ceiling(1), x.ceiling(2), x.ceiling(3));
        for (int lock = 0; lock < 4; lock++) {
            Check.is("6 from as to", x.section(1, lock, 8, 8), 3 - lock);
            rowIs("13 none", "-1 -1", x.ofSection(1, lock, false), x.ofSection(1, lock, true));
        }
        rowIs("14 CEILING 0 is not NONE", "-1 -1 -1 0", x.ceiling(0), x.ceiling(1), x.ceiling(2), x.ceiling(3));
        Check.is("6 from as to, though it had none", x.section(1, 0, 0, 0), 0);
        Check.is("4 struck", x.strike(0), 1);
        Check.is("14 none is left", x.ceiling(3), -1);
    }

    private static void everySectionComesBack() {
        Deadlinekeeper x = new Deadlinekeeper();
        for (int job = 0; job < 12; job++) {
            x.once(job, 8, 40, job % 10, job);
            for (int lock = 0; lock < 4; lock++) {
                x.section(job, lock, (job + lock) % 8, 8);
            }
        }
        String before = told(x);
        for (int job = 0; job < 12; job++) {
            x.strike(job);
            x.every(0, 8, 8, 0);
            x.section(job, job % 4, 3, 4);
            x.undo();
            x.undo();
            x.undo();
            Check.is("9 all is back, struck was " + job, told(x), before);
        }
    }

    private static void budgetOrSection() {
        Deadlinekeeper x = new Deadlinekeeper();
        x.once(0, 4, 9, 0, 0);
        x.section(0, 0, 0, 1);
        x.section(0, 3, 0, 4);
        Check.noState("7 with two SECTIONS", () -> x.budget(0, 1, 2));
        x.section(0, 0, 0, 0);
        Check.noState("7 with one SECTION", () -> x.budget(0, 1, 2));
        x.section(0, 3, 4, 4);
        Check.is("7 without", x.budget(0, 1, 2), 0);
        Check.noState("6 with a BUDGET", () -> x.section(0, 0, 0, 1));
        Check.is("7 none", x.budget(0, 0, 30), 1);
        Check.is("6 without", x.section(0, 0, 0, 1), 1);
        x.undo();
        x.undo();
        Check.noState("6 the BUDGET is back", () -> x.section(0, 0, 0, 1));
        rowIs("12 the BUDGET is back", "1 2", x.ofJob(0, 8), x.ofJob(0, 9));
    }

    // ---- struck empty and filled again

    private static void fillPlainly(Deadlinekeeper x) {
        for (int job = 0; job < 12; job++) {
            int number = job % 3 == 0 ? x.every(job, 2, 20, 1) : x.once(job, 1, 30, 2, 3);
            Check.is("2 numbers from 0 on", number, job);
        }
    }

    private static void struckEmptyAndFilledAgain() {
        Deadlinekeeper x = new Deadlinekeeper();
        x.rules(3, 4, 5, 1);
        for (int job = 0; job < 12; job++) {
            x.once(job, 8, 9, 9, 9);
            if (job % 2 == 0) {
                x.section(job, job % 4, 0, 8);
            } else {
                x.budget(job, 8, 30);
            }
            if (job > 0) {
                x.needs(job, job - 1, true);
            }
        }
        x.run(30);
        x.again();
        for (int job = 11; job >= 0; job--) {
            Check.is("4 left", x.strike(job), job);
        }
        Deadlinekeeper y = new Deadlinekeeper();
        y.rules(3, 4, 5, 1);
        Check.is("4 as a new one with the same RULES", told(x), told(y));
        rowIs("15 no JOBS, but RULES and STEPS", "0 0 0 3 4 5 1 8", x.plan(0), x.plan(1), x.plan(2), x.plan(3), x.plan(4),
                x.plan(5), x.plan(6), x.plan(7));
        rowIs("16 none", "-9 -9", x.edge(false), x.edge(true));
        nothingAhead("struck empty", x);
        Check.noIndex("12 none", () -> x.ofJob(0, 0));
        Check.is("10 none", x.run(60), 60);
        x.again();
        fillPlainly(x);
        fillPlainly(y);
        Check.is("2 nothing is left of those before", x.digest(), y.digest());
        x.run(60);
        y.run(60);
        Check.is("10 nor in the run", x.digest(), y.digest());
        x.again();
        for (int left = 7; left >= 0; left--) {
            Check.is("9 undo", x.undo(), left);
        }
        Check.is("9 four of them are left", x.plan(1), 15);
    }

    private static void struckEmptyLeavesNoNeed() {
        Deadlinekeeper x = new Deadlinekeeper();
        for (int job = 0; job < 4; job++) {
            x.once(0, 1, 9, 0, 0);
        }
        x.needs(0, 1, true);
        x.needs(1, 2, true);
        x.needs(2, 3, true);
        x.strike(2);
        rowIs("4 who needed it does not", "2 2 0 0", x.ofJob(0, 6), x.ofJob(0, 7), x.ofJob(1, 6), x.ofJob(3, 7));
        Check.is("2 anew", x.once(0, 1, 9, 0, 0), 2);
        rowIs("12 nobody needs the new one", "2 0 0", x.ofJob(0, 7), x.ofJob(1, 7), x.ofJob(2, 7));
        Check.is("5 nor does it need another one", x.needs(3, 2, true), 0);
        Check.is("5 nor does it stand between", x.needs(3, 1, true), 0);
        Check.is("5 round is round", x.needs(1, 3, true), -9);
        for (int left = 4; left >= 1; left--) {
            x.undo();
        }
        rowIs("9 all needs are back", "14 12 8 0", x.ofJob(0, 7), x.ofJob(1, 7), x.ofJob(2, 7), x.ofJob(3, 7));
    }
}
