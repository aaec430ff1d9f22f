/** Promises 1 to 9: a new object, and how the PLAN is told and undone. */
public final class PlanTest {
    public static void main(String[] args) {
        promise1();
        promise2();
        promise3();
        promise4();
        promise5();
        promise6();
        promise7();
        promise8();
        promise9();
        undoBringsBackAll();
        planOnlyAtZero();
        Check.done("PlanTest");
    }

    private static void promise1() {
        Deadlinekeeper x = new Deadlinekeeper();
        int[] plan = {0, 0, 0, 0, 2, 0, 0, 0};
        for (int what = 0; what < plan.length; what++) {
            Check.is("1 new plan(" + what + ")", x.plan(what), plan[what]);
        }
        Check.is("1 NOW", x.ofAll(0), 0);
        Check.noIndex("1 ofJob(0, 0)", () -> x.ofJob(0, 0));
        Deadlinekeeper y = new Deadlinekeeper();
        x.once(0, 1, 1, 0, 0);
        Check.is("1 objects are apart", y.plan(0), 0);
    }

    private static void promise2() {
        Deadlinekeeper x = new Deadlinekeeper();
        Check.is("2 once", x.once(60, 8, 40, 9, 99), 0);
        Check.is("2 once", x.once(0, 1, 1, 0, 0), 1);
        int[] most = {60, 8, 0, 100, 9, 99, 0, 0, 0, 0};
        int[] least = {0, 1, 0, 1, 0, 0, 0, 0, 0, 0};
        for (int what = 0; what < 10; what++) {
            Check.is("2 ofJob(0, " + what + ")", x.ofJob(0, what), most[what]);
            Check.is("2 ofJob(1, " + what + ")", x.ofJob(1, what), least[what]);
        }
        int[][] wrong = {{-1, 1, 1, 0, 0}, {61, 1, 1, 0, 0}, {0, 0, 1, 0, 0}, {0, 9, 1, 0, 0}, {0, 1, 0, 0, 0},
            {0, 1, 41, 0, 0}, {0, 1, 1, -1, 0}, {0, 1, 1, 10, 0}, {0, 1, 1, 0, -1}, {0, 1, 1, 0, 100},
            {Integer.MIN_VALUE, 1, 1, 0, 0}, {0, Integer.MAX_VALUE, 1, 0, 0}};
        for (int[] w : wrong) {
            Check.noArgument("2 wrong once", () -> x.once(w[0], w[1], w[2], w[3], w[4]));
        }
        for (int job = 2; job < 12; job++) {
            Check.is("2 the next number", x.once(job, 1, 1, 0, 0), job);
        }
        Check.noState("2 a thirteenth", () -> x.once(0, 1, 1, 0, 0));
        Check.noArgument("2 argument ahead of state", () -> x.once(0, 1, 1, 0, 100));
        Check.is("2 twelve", x.plan(0), 12);
    }

    private static void promise3() {
        Deadlinekeeper x = new Deadlinekeeper();
        int[] periods = {4, 5, 6, 8, 10, 12, 15, 20, 24, 30, 40, 60};
        int k = 0;
        for (int period = -60; period <= 130; period++) {
            int p = period;
            if (k < periods.length && period == periods[k]) {
                Check.is("3 every with " + period, x.every(k, 4, period, k % 10), k);
                k++;
            } else {
                Check.noArgument("3 every with " + period, () -> new Deadlinekeeper().every(0, 1, p, 0));
            }
        }
        int[] facts = {5, 4, 12, -1, 5, 0, 0, 0, 0, 0};
        for (int what = 0; what < 10; what++) {
            Check.is("3 ofJob(5, " + what + ")", x.ofJob(5, what), facts[what]);
        }
        Check.noState("3 a thirteenth", () -> x.every(0, 1, 4, 0));
        int[][] wrong = {{-1, 1, 8, 0}, {61, 1, 8, 0}, {0, 0, 8, 0}, {0, 9, 60, 0}, {0, 5, 4, 0}, {0, 1, 8, -1},
            {0, 1, 8, 10}, {0, 8, 6, 0}};
        for (int[] w : wrong) {
            Check.noArgument("3 wrong every", () -> x.every(w[0], w[1], w[2], w[3]));
        }
        Deadlinekeeper y = new Deadlinekeeper();
        Check.is("3 as long as PERIOD", y.every(60, 8, 8, 9), 0);
        Check.is("3 both kinds share the numbers", y.once(0, 1, 1, 0, 0), 1);
    }

    private static void promise4() {
        Deadlinekeeper x = new Deadlinekeeper();
        for (int job = 0; job < 4; job++) {
            x.once(job, 3, 5, job, 10 + job);
        }
        x.needs(0, 1, true);
        x.needs(1, 2, true);
        x.section(1, 2, 0, 3);
        Check.is("4 strike", x.strike(1), 3);
        Check.is("4 its set", x.plan(1), 13);
        Check.is("4 who needed it does not", x.ofJob(0, 6), 0);
        Check.is("4 nor what it needed", x.ofJob(0, 7), 0);
        Check.is("4 its CEILING is gone", x.ceiling(2), -1);
        Check.noIndex("4 it is not there", () -> x.strike(1));
        Check.noIndex("4 -1", () -> x.strike(-1));
        Check.noIndex("4 12", () -> x.strike(12));
        Check.noIndex("4 far", () -> x.strike(Integer.MIN_VALUE));
        Check.is("4 its number is taken again", x.every(9, 2, 10, 7), 1);
        Check.is("4 without SECTION", x.ofSection(1, 2, true), -1);
        Check.is("4 without need", x.ofJob(1, 6), 0);
        Check.is("4 GAIN", x.ofJob(1, 5), 0);
        Check.is("4 back", x.undo() + x.plan(1), 7 + 13);
        Check.is("4 and back", x.undo(), 6);
        Check.is("4 with its need", x.ofJob(0, 7), 6);
        Check.is("4 with its SECTION", x.ofSection(1, 2, true), 3);
        x.strike(3);
        x.strike(2);
        x.strike(1);
        Check.is("4 none left", x.strike(0), 0);
        Deadlinekeeper y = new Deadlinekeeper();
        y.every(0, 2, 10, 1);
        y.budget(0, 3, 9);
        y.strike(0);
        Check.is("4 anew", y.once(0, 2, 10, 1, 3), 0);
        Check.is("4 without BUDGET", y.ofJob(0, 8) + y.ofJob(0, 9) + y.ofJob(0, 2), 0);
    }

    private static void promise5() {
        Deadlinekeeper x = new Deadlinekeeper();
        for (int job = 0; job < 5; job++) {
            x.once(0, 1, 40, 0, 0);
        }
        x.every(0, 1, 10, 0);
        Check.is("5 needs(0, 1)", x.needs(0, 1, true), 0);
        Check.is("5 again", x.needs(0, 1, true), 1);
        Check.is("5 needs(1, 2)", x.needs(1, 2, true), 0);
        Check.is("5 needs(2, 3)", x.needs(2, 3, true), 0);
        Check.is("5 itself", x.ofJob(0, 6), 2);
        Check.is("5 through others", x.ofJob(0, 7), 14);
        int steps = x.plan(7);
        Check.is("5 round at once", x.needs(1, 0, true), -9);
        Check.is("5 round through others", x.needs(3, 0, true), -9);
        Check.is("5 no STEP", x.plan(7), steps);
        Check.is("5 nothing changed", x.ofJob(3, 6), 0);
        Check.is("5 not to need is always done", x.needs(3, 0, false), 0);
        Check.is("5 that is a STEP", x.plan(7), 8);
        Check.is("5 also itself", x.needs(0, 3, true), 0);
        Check.is("5 both", x.ofJob(0, 6), 10);
        Check.is("5 no more", x.needs(0, 1, false), 1);
        Check.is("5 left", x.ofJob(0, 7), 8);
        Check.is("5 can be done now", x.needs(1, 0, true), 0);
        Check.noIndex("5 no job", () -> x.needs(6, 0, true));
        Check.noIndex("5 no other", () -> x.needs(0, 6, true));
        Check.noIndex("5 both wrong", () -> x.needs(-1, -1, true));
        Check.noArgument("5 the same", () -> x.needs(1, 1, false));
        Check.noArgument("5 the same REPEATING", () -> x.needs(5, 5, true));
        Check.noState("5 REPEATING", () -> x.needs(5, 0, true));
        Check.noState("5 REPEATING other", () -> x.needs(0, 5, false));
    }

    private static void promise6() {
        Deadlinekeeper x = new Deadlinekeeper();
        x.once(0, 4, 40, 3, 0);
        x.every(0, 2, 10, 8);
        Check.is("6 first", x.section(0, 0, 0, 4), 1);
        Check.is("6 second", x.section(0, 3, 1, 2), 2);
        Check.is("6 in place of that before", x.section(0, 0, 3, 4), 2);
        Check.is("6 from", x.ofSection(0, 0, false), 3);
        Check.is("6 to", x.ofSection(0, 0, true), 4);
        Check.is("6 none at the end", x.section(0, 0, 4, 4), 1);
        Check.is("6 none", x.ofSection(0, 0, false), -1);
        Check.is("6 none, though it had none", x.section(0, 0, 0, 0), 1);
        Check.is("6 also a STEP", x.plan(7), 7);
        Check.is("6 of a REPEATING one", x.section(1, 3, 0, 2), 1);
        Check.noIndex("6 no job", () -> x.section(2, 0, 0, 1));
        Check.noIndex("6 lock -1", () -> x.section(0, -1, 0, 1));
        Check.noIndex("6 lock 4", () -> x.section(0, 4, 9, 1));
        Check.noArgument("6 from below 0", () -> x.section(0, 0, -1, 1));
        Check.noArgument("6 to above LENGTH", () -> x.section(0, 0, 0, 5));
        Check.noArgument("6 both above LENGTH", () -> x.section(1, 0, 3, 3));
        Check.noArgument("6 from above to", () -> x.section(0, 0, 2, 1));
        Check.noArgument("6 far", () -> x.section(0, 0, Integer.MIN_VALUE, Integer.MAX_VALUE));
        x.section(1, 3, 0, 0);
        x.budget(1, 1, 2);
        Check.noState("6 with a BUDGET", () -> x.section(1, 3, 0, 1));
        Check.noState("6 with a BUDGET, to none", () -> x.section(1, 3, 1, 1));
        Check.noArgument("6 argument ahead of state", () -> x.section(1, 3, 0, 3));
    }

    private static void promise7() {
        Deadlinekeeper x = new Deadlinekeeper();
        x.once(0, 4, 40, 3, 0);
        x.every(0, 2, 10, 8);
        Check.is("7 first", x.budget(0, 8, 30), 0);
        Check.is("7 told", x.ofJob(0, 8) * 100 + x.ofJob(0, 9), 830);
        Check.is("7 before", x.budget(0, 1, 2), 8);
        Check.is("7 told", x.ofJob(0, 8) * 100 + x.ofJob(0, 9), 102);
        Check.is("7 left", x.ofRun(0, 6), 1);
        Check.is("7 full", x.ofRun(0, 7), -1);
        Check.is("7 none", x.budget(0, 0, 5), 1);
        Check.is("7 no REFILL without", x.ofJob(0, 9), 0);
        Check.is("7 none left", x.ofRun(0, 6), -1);
        Check.is("7 none before", x.budget(1, 0, 5), 0);
        Check.noIndex("7 no job", () -> x.budget(2, 1, 2));
        Check.noArgument("7 minutes -1", () -> x.budget(0, -1, 2));
        Check.noArgument("7 minutes 9", () -> x.budget(0, 9, 2));
        Check.noArgument("7 refill 1", () -> x.budget(0, 1, 1));
        Check.noArgument("7 refill 31", () -> x.budget(0, 1, 31));
        Check.noArgument("7 refill 0 with none", () -> x.budget(0, 0, 0));
        x.section(1, 0, 0, 1);
        Check.noState("7 with a SECTION", () -> x.budget(1, 1, 2));
        Check.noState("7 with a SECTION, none", () -> x.budget(1, 0, 2));
        Check.noArgument("7 argument ahead of state", () -> x.budget(1, 0, 1));
    }

    private static void promise8() {
        Deadlinekeeper x = new Deadlinekeeper();
        Check.is("8 first", x.rules(3, 5, 10, 2), 0);
        Check.is("8 told", x.plan(3) * 1000 + x.plan(4) * 100 + x.plan(5) * 2 + x.plan(6), 3522);
        Check.is("8 before", x.rules(1, 1, 0, 0), 3);
        Check.is("8 told", x.plan(3) * 1000 + x.plan(4) * 100 + x.plan(5) * 2 + x.plan(6), 1100);
        int[][] wrong = {{-1, 1, 0, 0}, {4, 1, 0, 0}, {0, 0, 0, 0}, {0, 6, 0, 0}, {0, 1, -1, 0}, {0, 1, 11, 0},
            {0, 1, 0, -1}, {0, 1, 0, 3}};
        for (int[] w : wrong) {
            Check.noArgument("8 wrong rules", () -> x.rules(w[0], w[1], w[2], w[3]));
        }
        Check.is("8 the same is a STEP", x.rules(1, 1, 0, 0) + x.plan(7), 1 + 3);
        Check.is("8 undone", x.undo() + x.undo(), 3);
        Check.is("8 as before", x.plan(3) * 1000 + x.plan(4) * 100 + x.plan(5) * 2 + x.plan(6), 3522);
    }

    private static void promise9() {
        Deadlinekeeper x = new Deadlinekeeper();
        Check.noState("9 nothing to undo", x::undo);
        for (int k = 0; k < 12; k++) {
            x.once(k, 1, 1, 0, 0);
            Check.is("9 STEPS", x.plan(7), Math.min(k + 1, 8));
        }
        for (int left = 7; left >= 0; left--) {
            Check.is("9 undo", x.undo(), left);
            Check.is("9 plan(7)", x.plan(7), left);
            Check.is("9 JOBS", x.plan(0), 4 + left);
            Check.is("9 ahead", x.last(), (4 + left + 1) / 2);
        }
        Check.noState("9 the oldest are forgotten", x::undo);
        Check.is("9 JOBS are left", x.plan(1), 15);
        x.rules(2, 2, 2, 2);
        x.strike(3);
        Check.is("9 the last first", x.undo(), 1);
        Check.is("9 then that ahead", x.undo(), 0);
        Check.is("9 as it was", x.plan(3) + x.plan(1), 15);
        Deadlinekeeper y = new Deadlinekeeper();
        y.once(0, 3, 9, 1, 1);
        y.section(0, 1, 0, 2);
        y.once(2, 3, 9, 1, 1);
        y.needs(0, 1, true);
        y.rules(1, 3, 4, 1);
        y.every(3, 1, 4, 5);
        y.budget(2, 1, 7);
        long before = y.digest();
        y.strike(0);
        y.run(5);
        Check.noState("9 above 0", y::undo);
        y.again();
        y.undo();
        Check.is("9 all is as before", y.plan(7) + y.ofSection(0, 1, true) + y.ofJob(0, 6) + y.ofJob(2, 8), 12);
        Check.is("9 digest too", y.digest(), before);
        Check.is("9 knocks stay", y.knock() + y.undo() + y.knock(), 1 + 6 + 2);
    }

    /** Every fact of a JOB comes back, though its number was another one's in between. */
    private static void undoBringsBackAll() {
        Deadlinekeeper x = new Deadlinekeeper();
        x.once(7, 3, 11, 2, 55);
        x.once(9, 1, 30, 4, 6);
        x.needs(0, 1, true);
        x.section(0, 1, 1, 3);
        x.every(4, 2, 6, 8);
        x.budget(2, 5, 17);
        int[] once = {7, 3, 0, 18, 2, 55, 2, 2, 0, 0};
        int[] every = {4, 2, 6, -1, 8, 0, 0, 0, 5, 17};
        x.strike(0);
        x.every(1, 2, 5, 9);
        x.budget(0, 3, 3);
        x.undo();
        x.undo();
        x.undo();
        for (int what = 0; what < 10; what++) {
            Check.is("9 ofJob(0, " + what + ")", x.ofJob(0, what), once[what]);
        }
        Check.is("9 its SECTION", x.ofSection(0, 1, false) * 10 + x.ofSection(0, 1, true), 13);
        x.strike(2);
        x.once(3, 8, 40, 1, 77);
        x.section(2, 0, 1, 8);
        x.undo();
        x.undo();
        x.undo();
        for (int what = 0; what < 10; what++) {
            Check.is("9 ofJob(2, " + what + ")", x.ofJob(2, what), every[what]);
        }
        Check.is("9 no SECTION", x.ofSection(2, 0, false), -1);
        Check.is("9 no CEILING", x.ceiling(0), -1);
    }

    private static void planOnlyAtZero() {
        Deadlinekeeper x = new Deadlinekeeper();
        x.once(0, 2, 9, 1, 1);
        x.once(0, 2, 9, 1, 1);
        x.run(1);
        long before = x.digest();
        Check.noState("2 above 0", () -> x.once(0, 1, 1, 0, 0));
        Check.noArgument("2 argument first", () -> x.once(0, 0, 1, 0, 0));
        Check.noState("3 above 0", () -> x.every(0, 1, 4, 0));
        Check.noArgument("3 argument first", () -> x.every(0, 1, 7, 0));
        Check.noState("4 above 0", () -> x.strike(0));
        Check.noIndex("4 index first", () -> x.strike(2));
        Check.noState("5 above 0", () -> x.needs(0, 1, true));
        Check.noIndex("5 index first", () -> x.needs(0, 2, true));
        Check.noArgument("5 argument next", () -> x.needs(0, 0, true));
        Check.noState("6 above 0", () -> x.section(0, 0, 0, 1));
        Check.noIndex("6 index first", () -> x.section(0, 4, 0, 1));
        Check.noArgument("6 argument next", () -> x.section(0, 0, 0, 3));
        Check.noState("7 above 0", () -> x.budget(0, 1, 2));
        Check.noIndex("7 index first", () -> x.budget(2, 1, 2));
        Check.noArgument("7 argument next", () -> x.budget(0, 1, 1));
        Check.noState("8 above 0", () -> x.rules(0, 1, 0, 0));
        Check.noArgument("8 argument first", () -> x.rules(0, 0, 0, 0));
        Check.noState("9 above 0", x::undo);
        Check.is("nothing of that changed anything", x.digest(), before);
        x.again();
        Check.is("at 0 again it is let", x.once(0, 1, 1, 0, 0), 2);
    }
}
