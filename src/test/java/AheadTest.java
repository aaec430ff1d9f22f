/** Promises 18 to 30: what can be told ahead. */
public final class AheadTest {
    public static void main(String[] args) {
        promise18();
        promise19();
        promise20();
        promise21And22();
        promise23And24();
        promise25();
        promise26();
        promise26AtBest();
        promise27();
        promise28();
        promise28Edges();
        promise29And30();
        onceJobsAlone();
        Check.done("AheadTest");
    }

    private static Deadlinekeeper mixed() {
        Deadlinekeeper x = new Deadlinekeeper();
        x.once(2, 3, 5, 0, 0);
        x.once(4, 2, 3, 0, 0);
        x.every(1, 2, 5, 0);
        return x;
    }

    private static void promise18() {
        Deadlinekeeper x = mixed();
        int[][] due = {{2, 7, 5}, {3, 7, 2}, {4, 7, 2}, {5, 7, 0}, {2, 6, 0}, {4, 6, 0}, {0, 300, 5}, {5, 5, 0},
            {300, 300, 0}, {5, 4, -9}, {300, 0, -9}};
        for (int[] d : due) {
            Check.is("18 load(" + d[0] + ", " + d[1] + ")", x.load(d[0], d[1]), d[2]);
        }
        Check.noArgument("18 from -1", () -> x.load(-1, 5));
        Check.noArgument("18 to 301", () -> x.load(5, 301));
        Check.noArgument("18 argument ahead of -9", () -> x.load(301, 5));
        Check.noArgument("18 argument ahead of -9", () -> x.load(5, -1));
    }

    private static void promise19() {
        Deadlinekeeper x = mixed();
        int[][] due = {{0, 1, 0}, {0, 2, 2}, {1, 2, 2}, {1, 1, 0}, {2, 3, 3}, {2, 6, 5}, {2, 7, 7}, {6, 7, 2},
            {7, 11, 0}, {0, 296, 123}, {0, 297, 125}, {0, 300, 125}, {296, 300, 2}, {7, 2, -9}};
        for (int[] d : due) {
            Check.is("19 work(" + d[0] + ", " + d[1] + ")", x.work(d[0], d[1]), d[2]);
        }
        Check.noArgument("19 from -1", () -> x.work(-1, 5));
        Check.noArgument("19 from 301", () -> x.work(301, 0));
        Check.noArgument("19 to -1", () -> x.work(0, -1));
        Check.noArgument("19 to 301", () -> x.work(0, 301));
    }

    private static void crowdIs(String name, Deadlinekeeper x, int crowd, int from, int to) {
        Check.is("20 crowd(0) " + name, x.crowd(0), crowd);
        Check.is("20 crowd(1) " + name, x.crowd(1), from);
        Check.is("20 crowd(2) " + name, x.crowd(2), to);
    }

    private static Deadlinekeeper onces(int[][] jobs) {
        Deadlinekeeper x = new Deadlinekeeper();
        for (int[] job : jobs) {
            x.once(job[0], job[1], job[2], 0, job.length > 3 ? job[3] : 0);
        }
        return x;
    }

    private static void promise20() {
        Deadlinekeeper x = new Deadlinekeeper();
        x.every(0, 8, 8, 0);
        x.every(0, 8, 8, 0);
        crowdIs("without ONCE jobs", x, 0, -1, -1);
        crowdIs("just full", onces(new int[][] {{0, 3, 3}}), 0, -1, -1);
        crowdIs("below 0", onces(new int[][] {{0, 3, 9}}), 0, -1, -1);
        crowdIs("of one", onces(new int[][] {{5, 4, 3}}), 1, 5, 8);
        crowdIs("of two", onces(new int[][] {{0, 4, 5}, {2, 4, 6}, {1, 1, 6}}), 1, 0, 8);
        crowdIs("the smallest s", onces(new int[][] {{10, 4, 3}, {0, 4, 3}}), 1, 0, 3);
        crowdIs("the smallest t", onces(new int[][] {{0, 2, 5}, {0, 4, 3}}), 1, 0, 3);
        crowdIs("a smaller s ahead of a smaller t", onces(new int[][] {{1, 2, 1}, {0, 2, 4}, {0, 1, 4}}), 1, 0, 4);
        crowdIs("the greatest", onces(new int[][] {{0, 4, 3}, {10, 5, 3}}), 2, 10, 13);
        Check.noArgument("20 -1", () -> x.crowd(-1));
        Check.noArgument("20 3", () -> x.crowd(3));
    }

    private static void promise21And22() {
        Deadlinekeeper x = onces(new int[][] {{0, 4, 5}, {2, 4, 6}, {1, 1, 6}});
        int[] ends = {4, 9, 5};
        for (int job = 0; job < 3; job++) {
            Check.is("21 end(" + job + ")", x.end(job), ends[job]);
        }
        Check.is("22 late()", x.late(), 2);
        Deadlinekeeper y = onces(new int[][] {{0, 5, 20}, {2, 1, 3}, {2, 1, 3}, {10, 2, 2}});
        int[] others = {7, 3, 4, 12};
        for (int job = 0; job < 4; job++) {
            Check.is("21 the earlier DUE goes between, end(" + job + ")", y.end(job), others[job]);
        }
        Check.is("22 at DUE is not LATE", y.late(), 0);
        Deadlinekeeper z = onces(new int[][] {{0, 8, 1}, {0, 8, 1}});
        Check.is("21 nobody is cut", z.end(1), 16);
        Check.is("22 both", z.late(), 3);
        Check.is("22 without", new Deadlinekeeper().late(), 0);
        z.every(0, 1, 4, 0);
        Check.noIndex("21 no job", () -> z.end(3));
        Check.noIndex("21 -1", () -> z.end(-1));
        Check.noState("21 REPEATING", () -> z.end(2));
        z.strike(0);
        Check.is("21 as the PLAN is now", z.end(1), 8);
    }

    private static void promise23And24() {
        Deadlinekeeper x = onces(new int[][] {{3, 2, 9}, {10, 1, 5}});
        x.every(0, 4, 4, 0);
        int[][] idle = {{0, 12, 9}, {3, 5, 0}, {4, 4, 0}, {0, 3, 3}, {0, 4, 3}, {4, 6, 1}, {0, 300, 297}, {5, 4, -9}};
        for (int[] d : idle) {
            Check.is("23 idle(" + d[0] + ", " + d[1] + ")", x.idle(d[0], d[1]), d[2]);
        }
        int[][] next = {{0, 0}, {2, 2}, {3, 5}, {4, 5}, {5, 5}, {10, 11}, {299, 299}, {300, 300}};
        for (int[] d : next) {
            Check.is("24 nextIdle(" + d[0] + ")", x.nextIdle(d[0]), d[1]);
        }
        Deadlinekeeper full = new Deadlinekeeper();
        for (int k = 0; k < 12; k++) {
            full.once(60, 8, 1, 0, 0);
        }
        Check.is("23 the most", full.idle(0, 300), 204);
        Check.is("24 the farthest", full.nextIdle(60), 156);
        Check.is("24 in the last", full.nextIdle(155), 156);
        Check.is("24 ahead of them", full.nextIdle(59), 59);
        Deadlinekeeper first = onces(new int[][] {{0, 2, 9}});
        Check.is("23 busy from 0 on", first.idle(0, 3), 1);
        Check.is("24 busy from 0 on", first.nextIdle(0), 2);
        Check.is("23 without", new Deadlinekeeper().idle(0, 300), 300);
        Check.noArgument("23 from -1", () -> x.idle(-1, 5));
        Check.noArgument("23 from 301", () -> x.idle(301, 5));
        Check.noArgument("23 to -1", () -> x.idle(5, -1));
        Check.noArgument("23 to 301", () -> x.idle(5, 301));
        Check.noArgument("24 -1", () -> x.nextIdle(-1));
        Check.noArgument("24 301", () -> x.nextIdle(301));
    }

    private static void promise25() {
        Deadlinekeeper x = onces(new int[][] {{0, 1, 1, 5}, {0, 1, 1, 5}, {0, 1, 2, 9}, {0, 1, 2, 1}, {0, 2, 9, 99},
            {50, 1, 1, 0}});
        x.every(0, 1, 4, 9);
        Check.is("25 PICK", x.pick(0), 37);
        Check.is("25 its GAINS", x.pick(1), 14);
        Check.is("25 how many", x.pick(2), 3);
        x.strike(2);
        Check.is("25 PICK", x.pick(0), 41);
        Deadlinekeeper y = onces(new int[][] {{0, 1, 1, 2}, {0, 1, 2, 3}, {0, 1, 2, 98}, {0, 1, 3, 2}, {1, 1, 1, 3}});
        Check.is("25 by falling GAIN, of the same by rising numbers", y.pick(0), 14);
        Check.is("25 their GAINS", y.pick(1), 103);
        for (int what = 0; what < 3; what++) {
            Check.is("25 without", new Deadlinekeeper().pick(what), 0);
        }
        Check.noArgument("25 -1", () -> x.pick(-1));
        Check.noArgument("25 3", () -> x.pick(3));
    }

    private static void cuttingIs(String name, Deadlinekeeper x, int best, int bestGain, int rule, int ruleGain) {
        Check.is("26 cutting(false, 0) " + name, x.cutting(false, 0), best);
        Check.is("26 cutting(false, 1) " + name, x.cutting(false, 1), bestGain);
        Check.is("26 cutting(true, 0) " + name, x.cutting(true, 0), rule);
        Check.is("26 cutting(true, 1) " + name, x.cutting(true, 1), ruleGain);
    }

    private static void promise26() {
        cuttingIs("without", new Deadlinekeeper(), 0, 0, 0, 0);
        cuttingIs("the longest, then the smallest number",
                onces(new int[][] {{0, 3, 4, 1}, {0, 2, 4, 1}, {0, 3, 4, 1}}), 6, 1, 5, 1);
        cuttingIs("of two alike the smallest number", onces(new int[][] {{0, 3, 4, 1}, {0, 3, 4, 1}}), 2, 1, 1, 1);
        cuttingIs("who is not within stays", onces(new int[][] {{9, 1, 1, 0}, {0, 3, 4, 4}, {1, 3, 3, 5}, {0, 1, 5, 1}}),
                3, 6, 2, 6);
        cuttingIs("one alone that can't be kept", onces(new int[][] {{0, 8, 7, 99}}), 1, 0, 1, 0);
        cuttingIs("s and t too", onces(new int[][] {{0, 3, 4, 9}, {0, 3, 4, 8}, {0, 1, 5, 0}}), 6, 9, 2, 9);
        Deadlinekeeper x = new Deadlinekeeper();
        Check.noArgument("26 -1", () -> x.cutting(true, -1));
        Check.noArgument("26 2", () -> x.cutting(false, 2));
    }

    private static void promise26AtBest() {
        Deadlinekeeper x = onces(new int[][] {{0, 8, 8, 10}, {0, 2, 8, 6}, {0, 2, 8, 7}});
        cuttingIs("best is not by rule", x, 1, 13, 6, 10);
        for (int k = 0; k < 5; k++) {
            x.once(20 + 2 * k, 1, 2, 0, 1);
        }
        x.every(0, 1, 60, 0);
        cuttingIs("of eight", x, 1, 18, 6, 15);
        x.once(40, 1, 2, 0, 1);
        cuttingIs("of nine by rule", x, 6, 16, 6, 16);
        x.undo();
        cuttingIs("of eight again", x, 1, 18, 6, 15);
        Deadlinekeeper y = new Deadlinekeeper();
        y.every(0, 1, 60, 0);
        y.once(0, 1, 9, 0, 5);
        cuttingIs("without the number 0", y, 0, 5, 0, 5);
        cuttingIs("no GAIN is not KEPT at best", onces(new int[][] {{0, 1, 9, 0}, {0, 1, 9, 3}, {5, 1, 9, 0}}), 5, 3, 0, 3);
        cuttingIs("of the same GAINS the smallest number", onces(new int[][] {{0, 2, 2, 4}, {0, 1, 2, 2}, {0, 1, 2, 2}}),
                6, 4, 6, 4);
    }

    private static void promise27() {
        Deadlinekeeper x = new Deadlinekeeper();
        Check.is("27 without", x.share(), 0);
        x.every(0, 1, 4, 0);
        x.every(9, 2, 6, 0);
        x.every(0, 5, 20, 0);
        x.once(0, 8, 8, 0, 0);
        Check.is("27 share", x.share(), 100);
        x.strike(1);
        Check.is("27 without one", x.share(), 60);
        Deadlinekeeper y = new Deadlinekeeper();
        for (int k = 0; k < 12; k++) {
            y.every(0, 8, 8, 0);
        }
        Check.is("27 the most", y.share(), 1440);
    }

    private static void promise28() {
        Deadlinekeeper x = new Deadlinekeeper();
        x.every(0, 3, 10, 5);
        x.every(0, 2, 5, 5);
        x.every(0, 8, 60, 1);
        x.every(0, 4, 8, 0);
        x.once(0, 8, 8, 9, 0);
        int[] due = {5, 5, 29, -1};
        for (int job = 0; job < 4; job++) {
            Check.is("28 response(" + job + ")", x.response(job), due[job]);
        }
        Check.noIndex("28 no job", () -> x.response(5));
        Check.noIndex("28 -1", () -> x.response(-1));
        Check.noState("28 a ONCE job", () -> x.response(4));
        Deadlinekeeper y = new Deadlinekeeper();
        y.every(0, 4, 8, 9);
        y.every(30, 4, 8, 1);
        Check.is("28 as long as PERIOD", y.response(1), 8);
        Check.is("28 alone", y.response(0), 4);
        y.every(0, 1, 60, 3);
        Check.is("28 more than PERIOD", y.response(1), -1);
    }

    private static void promise28Edges() {
        Deadlinekeeper x = new Deadlinekeeper();
        x.every(0, 3, 60, 0);
        x.every(9, 2, 4, 0);
        Check.is("28 5 / 4 is rounded up", x.response(0), 7);
        Check.is("28 one more than its PERIOD", x.response(1), -1);
        Deadlinekeeper y = new Deadlinekeeper();
        for (int rank = 0; rank <= 9; rank++) {
            y.every(rank, 1, 12, rank);
        }
        for (int job = 0; job <= 9; job++) {
            Check.is("28 its RANK or a greater one, response(" + job + ")", y.response(job), 10 - job);
        }
        Deadlinekeeper z = new Deadlinekeeper();
        z.every(0, 8, 60, 0);
        z.every(0, 4, 5, 9);
        Check.is("28 as LENGTH is 8", z.response(0), 40);
        z.every(0, 1, 60, 9);
        Check.is("28 with one more", z.response(0), 45);
        z.every(0, 3, 60, 9);
        Check.is("28 at its PERIOD", z.response(0), 60);
        z.every(0, 1, 60, 8);
        Check.is("28 beyond its PERIOD", z.response(0), -1);
        z.strike(4);
        z.once(0, 8, 40, 9, 0);
        Check.is("28 a ONCE job is not in it", z.response(0), 60);
    }

    private static void piecesAre(Deadlinekeeper x, int job, int from0, int to0, int from1, int to1) {
        Check.is("30 begins on 0, " + job, x.piece(job, 0, false), from0);
        Check.is("30 ends on 0, " + job, x.piece(job, 0, true), to0);
        Check.is("30 begins on 1, " + job, x.piece(job, 1, false), from1);
        Check.is("30 ends on 1, " + job, x.piece(job, 1, true), to1);
    }

    private static void promise29And30() {
        Check.is("29 without ONCE jobs", new Deadlinekeeper().last(), 0);
        Deadlinekeeper x = onces(new int[][] {{60, 5, 1}, {0, 4, 1}, {0, 3, 1}});
        Check.is("29 half of all", x.last(), 6);
        piecesAre(x, 0, 0, 5, -1, -1);
        piecesAre(x, 1, 5, 6, 0, 3);
        piecesAre(x, 2, -1, -1, 3, 6);
        Deadlinekeeper y = onces(new int[][] {{0, 5, 1}, {0, 4, 1}});
        y.every(0, 8, 8, 0);
        y.once(0, 2, 1, 0, 0);
        Check.is("29 rounded up", y.last(), 6);
        piecesAre(y, 3, -1, -1, 3, 5);
        Deadlinekeeper z = onces(new int[][] {{0, 8, 1}, {0, 1, 1}});
        Check.is("29 the longest", z.last(), 8);
        Check.is("39 with it", z.isSound(), true);
        piecesAre(z, 0, 0, 8, -1, -1);
        piecesAre(z, 1, -1, -1, 0, 1);
        Deadlinekeeper w = onces(new int[][] {{0, 4, 1}, {0, 2, 1}, {0, 2, 1}});
        piecesAre(w, 0, 0, 4, -1, -1);
        piecesAre(w, 1, -1, -1, 0, 2);
        piecesAre(w, 2, -1, -1, 2, 4);
        Deadlinekeeper v = onces(new int[][] {{0, 1, 1}, {0, 8, 1}});
        piecesAre(v, 1, 1, 8, 0, 1);
        Check.is("39 one piece begins as the other one ends", v.isSound(), true);
        v.strike(1);
        Check.is("29 of one minute", v.last(), 1);
        v.strike(0);
        Check.is("29 without ONCE jobs any more", v.last(), 0);
        Check.noIndex("30 no job", () -> y.piece(4, 0, true));
        Check.noIndex("30 no job, no machine", () -> y.piece(-1, 7, true));
        Check.noArgument("30 machine -1", () -> y.piece(0, -1, true));
        Check.noArgument("30 machine 2 of a REPEATING job", () -> y.piece(2, 2, true));
        Check.noState("30 REPEATING", () -> y.piece(2, 0, true));
    }

    /** NEEDS, SECTIONS, BUDGETS, RULES and the run do not touch what is told ahead. */
    private static void onceJobsAlone() {
        Deadlinekeeper x = onces(new int[][] {{0, 4, 5, 3}, {2, 4, 6, 2}, {1, 1, 6, 4}});
        x.needs(0, 1, true);
        x.section(1, 0, 0, 4);
        x.section(2, 0, 0, 1);
        x.budget(0, 1, 30);
        x.rules(3, 1, 1, 2);
        x.every(0, 4, 4, 9);
        x.run(20);
        crowdIs("with all the rest", x, 1, 0, 8);
        Check.is("21 with all the rest", x.end(0) * 100 + x.end(1) * 10 + x.end(2), 495);
        Check.is("22 with all the rest", x.late(), 2);
        Check.is("26 with all the rest", x.cutting(true, 0), 2);
    }
}
