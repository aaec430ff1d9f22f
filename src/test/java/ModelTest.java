/**
 * All promises: long runs of calls, drawn by a plain rule, on the class and on the Model side by side. A number behind
 * its name tells how many rounds there are to be, and a second one where the drawing starts.
 */
public final class ModelTest {
    private static final String[] TELL = {"once", "once", "once", "every", "every", "strike", "needs", "needs",
        "section", "section", "section", "budget", "rules", "rules", "undo"};
    private static final String[] ASK = {"ofJob", "ofSection", "ceiling", "plan", "edge", "near", "load", "work",
        "crowd", "end", "late", "idle", "nextIdle", "pick", "cutting", "share", "response", "last", "piece", "ran",
        "trace", "ofTask", "ofTask", "ofTask", "ofRun", "ofRun", "ofAll", "ofAll", "holder", "queued", "knock",
        "isSound"};
    private static final int[] PERIODS = {4, 5, 6, 8, 10, 12, 15, 20, 24, 30, 40, 60};
    private static final int ROUNDS = 80;
    private static final int CALLS = 250;

    private static long seed = 20261119;
    private static int undos;
    private static int mostRank;
    private static int mostTerm;
    private static int mostLength;

    private static int draw(int below) {
        seed = seed * 6364136223846793005L + 1442695040888963407L;
        return (int) ((seed >>> 33) % below);
    }

    /** Mostly from least to most, now and then just beyond one of them, seldom far beyond. */
    private static int from(int least, int most) {
        if (draw(60) == 0) {
            int[] far = {least - 1, most + 1, -1, Integer.MIN_VALUE, Integer.MAX_VALUE};
            return far[draw(far.length)];
        }
        return least + draw(most - least + 1);
    }

    public static void main(String[] args) {
        int rounds = args.length > 0 ? Integer.parseInt(args[0]) : ROUNDS;
        seed += args.length > 1 ? Long.parseLong(args[1]) : 0;
        for (int round = 0; round < rounds; round++) {
            oneRound(round);
        }
        Check.done("ModelTest");
    }

    private static void oneRound(int round) {
        Deadlinekeeper x = new Deadlinekeeper();
        Model model = new Model();
        int jobs = 1 + draw(12);
        int span = 1 + draw(draw(2) == 0 ? 61 : 4);
        mostRank = draw(2) == 0 ? 9 : draw(4);
        mostTerm = draw(2) == 0 ? 40 : 1 + draw(8);
        mostLength = draw(3) == 0 ? 1 : 8;
        StringBuilder calls = new StringBuilder("round " + round + ":");
        for (int k = 0; k < CALLS; k++) {
            String name = name(model, jobs);
            int[] a = arguments(name, model, span);
            String due = Check.outcome(() -> model.call(name, a));
            calls.append(' ').append(name).append(java.util.Arrays.toString(a));
            Check.is(calls.toString(), Check.outcome(() -> call(x, name, a)), due);
            boolean isRefused = due.startsWith("throws") || due.equals("-9");
            if (isRefused || k % 5 == 0) {
                Check.is(calls + " digest", x.digest(), (Long) model.call("digest", a));
            }
        }
        Check.is(calls + " digest", x.digest(), (Long) model.call("digest", new int[0]));
    }

    private static String name(Model model, int jobs) {
        boolean isAtZero = (Integer) model.call("ofAll", new int[] {0}) == 0;
        if (isAtZero && model.plan.jobs.size() < jobs && draw(3) > 0) {
            return draw(3) > 0 ? "once" : "every";
        }
        if (isAtZero && draw(20) == 0) {
            undos = draw(9);
        }
        if (isAtZero && undos > 0) {
            undos--;
            return "undo";
        }
        int way = draw(20);
        if (way < (isAtZero ? 12 : 1)) {
            return TELL[draw(TELL.length)];
        }
        if (way < (isAtZero ? 13 : 9)) {
            return "run";
        }
        return way == 19 && draw(3) == 0 ? "again" : ASK[draw(ASK.length)];
    }

    private static int job(Model model) {
        if (draw(30) == 0 || model.plan.jobs.isEmpty()) {
            return from(0, 11);
        }
        Object[] numbers = model.plan.jobs.keySet().toArray();
        return (Integer) numbers[draw(numbers.length)];
    }

    private static int[] arguments(String name, Model model, int span) {
        switch (name) {
            case "once":
                return new int[] {draw(span) + from(0, 0), from(1, draw(3) == 0 ? 1 : mostLength), from(1, mostTerm),
                    from(0, mostRank), from(0, draw(2) == 0 ? 3 : 99)};
            case "every":
                return new int[] {draw(span) + from(0, 0), from(1, draw(3) == 0 ? 8 : 3),
                    draw(20) == 0 ? from(1, 61) : PERIODS[draw(PERIODS.length)], from(0, mostRank)};
            case "needs":
                return new int[] {job(model), job(model), draw(5) == 0 ? 0 : 1};
            case "section":
                int from = from(0, 4);
                return new int[] {job(model), from(0, 3), from, from + from(0, 4)};
            case "budget":
                return new int[] {job(model), from(0, 8), from(2, draw(2) == 0 ? 9 : 30)};
            case "rules":
                return new int[] {draw(3) == 0 ? 1 : from(0, 3), from(1, 5), draw(2) == 0 ? 0 : from(0, 10), from(0, 2)};
            case "run":
                return new int[] {from(1, draw(4) == 0 ? 60 : 4)};
            case "ofJob":
            case "ofTask":
                return new int[] {job(model), from(0, 9)};
            case "ofRun":
                return new int[] {job(model), from(0, 7)};
            case "ofSection":
                return new int[] {job(model), from(0, 3), draw(2)};
            case "piece":
                return new int[] {job(model), from(0, 1), draw(2)};
            case "cutting":
                return new int[] {draw(2), from(0, 1)};
            case "strike":
            case "end":
            case "response":
                return new int[] {job(model)};
            default:
                return others(name);
        }
    }

    private static int[] others(String name) {
        switch (name) {
            case "ceiling":
            case "holder":
                return new int[] {from(0, 3)};
            case "plan":
                return new int[] {from(0, 7)};
            case "ofAll":
                return new int[] {from(0, 8)};
            case "edge":
                return new int[] {draw(2)};
            case "crowd":
            case "pick":
                return new int[] {from(0, 2)};
            case "near":
                return new int[] {from(-1, draw(2) == 0 ? 70 : 300), from(0, 3)};
            case "queued":
                return new int[] {from(0, 4)};
            case "ran":
                return new int[] {from(0, 30)};
            case "nextIdle":
                return new int[] {from(0, 300)};
            default:
                int most = draw(2) == 0 ? 40 : 300;
                return new int[] {from(0, most), from(0, most)};
        }
    }

    private static Object call(Deadlinekeeper x, String name, int[] a) {
        switch (name) {
            case "once":
                return x.once(a[0], a[1], a[2], a[3], a[4]);
            case "every":
                return x.every(a[0], a[1], a[2], a[3]);
            case "strike":
                return x.strike(a[0]);
            case "needs":
                return x.needs(a[0], a[1], a[2] != 0);
            case "section":
                return x.section(a[0], a[1], a[2], a[3]);
            case "budget":
                return x.budget(a[0], a[1], a[2]);
            case "rules":
                return x.rules(a[0], a[1], a[2], a[3]);
            case "undo":
                return x.undo();
            case "run":
                return x.run(a[0]);
            case "again":
                return x.again();
            case "knock":
                return x.knock();
            case "isSound":
                return x.isSound();
            case "ofJob":
                return x.ofJob(a[0], a[1]);
            case "ofSection":
                return x.ofSection(a[0], a[1], a[2] != 0);
            case "ceiling":
                return x.ceiling(a[0]);
            case "plan":
                return x.plan(a[0]);
            case "edge":
                return x.edge(a[0] != 0);
            case "near":
                return x.near(a[0], a[1]);
            default:
                return callOthers(x, name, a);
        }
    }

    private static Object callOthers(Deadlinekeeper x, String name, int[] a) {
        switch (name) {
            case "load":
                return x.load(a[0], a[1]);
            case "work":
                return x.work(a[0], a[1]);
            case "crowd":
                return x.crowd(a[0]);
            case "end":
                return x.end(a[0]);
            case "late":
                return x.late();
            case "idle":
                return x.idle(a[0], a[1]);
            case "nextIdle":
                return x.nextIdle(a[0]);
            case "pick":
                return x.pick(a[0]);
            case "cutting":
                return x.cutting(a[0] != 0, a[1]);
            case "share":
                return x.share();
            case "response":
                return x.response(a[0]);
            case "last":
                return x.last();
            case "piece":
                return x.piece(a[0], a[1], a[2] != 0);
            case "ran":
                return x.ran(a[0]);
            case "trace":
                return x.trace(a[0], a[1]);
            case "ofTask":
                return x.ofTask(a[0], a[1]);
            case "ofRun":
                return x.ofRun(a[0], a[1]);
            case "ofAll":
                return x.ofAll(a[0]);
            case "holder":
                return x.holder(a[0]);
            case "queued":
                return x.queued(a[0]);
            default:
                throw new AssertionError(name);
        }
    }
}
