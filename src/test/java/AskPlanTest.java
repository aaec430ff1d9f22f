/** Promises 12 to 17: what the PLAN is. */
public final class AskPlanTest {
    public static void main(String[] args) {
        promise12();
        promise13();
        promise14();
        promise15();
        promise16();
        promise17();
        Check.done("AskPlanTest");
    }

    private static Deadlinekeeper three() {
        Deadlinekeeper x = new Deadlinekeeper();
        x.once(7, 3, 11, 2, 55);
        x.every(20, 5, 12, 6);
        x.once(9, 8, 40, 4, 1);
        return x;
    }

    private static void promise12() {
        Deadlinekeeper x = three();
        x.needs(2, 0, true);
        x.budget(1, 4, 17);
        int[][] facts = {{7, 3, 0, 18, 2, 55, 0, 0, 0, 0}, {20, 5, 12, -1, 6, 0, 0, 0, 4, 17},
            {9, 8, 0, 49, 4, 1, 1, 1, 0, 0}};
        for (int job = 0; job < 3; job++) {
            for (int what = 0; what < 10; what++) {
                Check.is("12 ofJob(" + job + ", " + what + ")", x.ofJob(job, what), facts[job][what]);
            }
        }
        Deadlinekeeper y = new Deadlinekeeper();
        for (int job = 0; job < 8; job++) {
            y.once(0, 1, 1, 0, 0);
        }
        for (int job = 0; job < 7; job++) {
            y.needs(job, job + 1, true);
        }
        Check.is("12 a chain, itself", y.ofJob(0, 6), 2);
        Check.is("12 a chain, through others", y.ofJob(0, 7), 254);
        Check.is("12 its end", y.ofJob(7, 7), 0);
        y.strike(3);
        y.needs(7, 0, true);
        Check.is("12 through 0", y.ofJob(7, 7), 7);
        Check.noIndex("12 no job", () -> x.ofJob(3, 0));
        Check.noIndex("12 -1", () -> x.ofJob(-1, 99));
        Check.noArgument("12 what -1", () -> x.ofJob(0, -1));
        Check.noArgument("12 what 10", () -> x.ofJob(0, 10));
    }

    private static void promise13() {
        Deadlinekeeper x = three();
        x.section(2, 0, 1, 8);
        x.section(2, 3, 0, 2);
        Check.is("13 from", x.ofSection(2, 0, false), 1);
        Check.is("13 to", x.ofSection(2, 0, true), 8);
        Check.is("13 from of another", x.ofSection(2, 3, false), 0);
        Check.is("13 to of another", x.ofSection(2, 3, true), 2);
        Check.is("13 none", x.ofSection(2, 1, false), -1);
        Check.is("13 none", x.ofSection(0, 0, true), -1);
        Check.noIndex("13 no job", () -> x.ofSection(3, 0, true));
        Check.noIndex("13 lock 4", () -> x.ofSection(0, 4, true));
        Check.noIndex("13 lock -1", () -> x.ofSection(0, -1, true));
    }

    private static void promise14() {
        Deadlinekeeper x = three();
        Check.is("14 without", x.ceiling(1), -1);
        x.section(0, 1, 0, 1);
        Check.is("14 of one", x.ceiling(1), 2);
        x.section(1, 1, 0, 1);
        Check.is("14 the greatest", x.ceiling(1), 6);
        x.section(2, 1, 0, 1);
        Check.is("14 still", x.ceiling(1), 6);
        x.section(1, 1, 0, 0);
        Check.is("14 not its any more", x.ceiling(1), 4);
        Check.is("14 others are not meant", x.ceiling(0), -1);
        Check.noIndex("14 lock -1", () -> x.ceiling(-1));
        Check.noIndex("14 lock 4", () -> x.ceiling(4));
        Deadlinekeeper y = new Deadlinekeeper();
        y.once(0, 1, 1, 0, 0);
        y.section(0, 0, 0, 1);
        Check.is("14 RANK 0", y.ceiling(0), 0);
    }

    private static void promise15() {
        Deadlinekeeper x = three();
        x.strike(0);
        x.rules(2, 4, 7, 1);
        int[] facts = {2, 6, 4, 2, 4, 7, 1, 5};
        for (int what = 0; what < facts.length; what++) {
            Check.is("15 plan(" + what + ")", x.plan(what), facts[what]);
        }
        Check.noArgument("15 -1", () -> x.plan(-1));
        Check.noArgument("15 8", () -> x.plan(8));
    }

    private static void promise16() {
        Check.is("16 without JOBS", new Deadlinekeeper().edge(false), -9);
        Check.is("16 without JOBS", new Deadlinekeeper().edge(true), -9);
        Deadlinekeeper x = three();
        Check.is("16 first", x.edge(false), 7);
        Check.is("16 last", x.edge(true), 20);
        x.once(60, 1, 1, 0, 0);
        x.once(0, 1, 1, 0, 0);
        Check.is("16 first", x.edge(false), 0);
        Check.is("16 last", x.edge(true), 60);
        x.strike(3);
        x.strike(4);
        x.strike(0);
        Check.is("16 who is struck does not count", x.edge(false), 9);
    }

    private static void promise17() {
        Deadlinekeeper x = three();
        int[][] due = {{6, -1, -1, 7, 7}, {7, 7, -1, 7, 9}, {8, 7, 7, 9, 9}, {9, 9, 7, 9, 20}, {10, 9, 9, 20, 20},
            {20, 20, 9, 20, -1}, {21, 20, 20, -1, -1}, {0, -1, -1, 7, 7}, {300, 20, 20, -1, -1}};
        for (int[] d : due) {
            for (int way = 0; way < 4; way++) {
                Check.is("17 near(" + d[0] + ", " + way + ")", x.near(d[0], way), d[1 + way]);
            }
        }
        for (int way = 0; way < 4; way++) {
            int w = way;
            Check.is("17 with NONE", x.near(-1, way), -9);
            Check.is("17 without JOBS", new Deadlinekeeper().near(5, way), -1);
            Check.is("17 with NONE, without JOBS", new Deadlinekeeper().near(-1, way), -9);
            Check.noArgument("17 -2", () -> x.near(-2, w));
            Check.noArgument("17 301", () -> x.near(301, w));
        }
        Check.noArgument("17 way -1", () -> x.near(0, -1));
        Check.noArgument("17 way 4, with NONE", () -> x.near(-1, 4));
        x.once(0, 1, 1, 0, 0);
        Check.is("17 at 0", x.near(0, 0), 0);
        Check.is("17 below 0", x.near(0, 1), -1);
    }
}
