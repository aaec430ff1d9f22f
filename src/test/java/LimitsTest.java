/**
 * Every 'Throws ..' of the document: each number just inside and just outside of what is let, and the smallest and the
 * greatest int; which exception goes ahead of which; and that a call that is refused, or tells -9, changes nothing.
 */
public final class LimitsTest {
    private static final String INDEX = "throws.IndexOutOfBoundsException";
    private static final String ARGUMENT = "throws.IllegalArgumentException";
    private static final String STATE = "throws.IllegalStateException";
    private static final int LEAST = Integer.MIN_VALUE;
    private static final int MOST = Integer.MAX_VALUE;

    interface With {
        Object of(Deadlinekeeper x, int number);
    }

    public static void main(String[] args) {
        for (Scene scene : Scene.values()) {
            once(scene);
            every(scene);
            strike(scene);
            rulesAndUndo(scene);
            run(scene);
            ofAllThere(scene);
            ahead(scene);
            stretches(scene);
            ofTheRun(scene);
            if (scene != Scene.EMPTY) {
                needs(scene);
                section(scene);
                budget(scene);
                ofJobs(scene);
                aheadOfJobs(scene);
            }
        }
        withoutJobs();
        runUpToTheEnd();
        questionsChangeNothing();
        Check.done("LimitsTest");
    }

    private static void limits(Scene scene, String name, int least, int most, String refusal, String let, With call) {
        for (int number : new int[] {LEAST, LEAST + 1, least - 1, most + 1, MOST - 1, MOST}) {
            scene.answers(name + " with " + number, refusal, x -> call.of(x, number));
        }
        for (int number : new int[] {least, most}) {
            if (let.isEmpty()) {
                scene.lets(name + " with " + number, x -> call.of(x, number));
            } else {
                scene.answers(name + " with " + number, let, x -> call.of(x, number));
            }
        }
    }

    /** The numbers that no JOB has; 4 was struck. */
    private static void noJob(Scene scene, String name, With call) {
        for (int number : new int[] {LEAST, -32, -1, 12, 13, 31, 32, 33, 64, MOST}) {
            scene.answers(name + " of " + number, INDEX, x -> call.of(x, number));
        }
        if (scene != Scene.FULL) {
            for (int number = 4; number < 12; number++) {
                int job = number;
                scene.answers(name + " of " + number, INDEX, x -> call.of(x, job));
            }
        }
    }

    private static void noLock(Scene scene, String name, With call) {
        limits(scene, name, 0, 3, INDEX, "", call);
    }

    // ---- the plan

    private static String next(Scene scene) {
        return scene == Scene.EMPTY ? "0" : scene == Scene.TOLD ? "4" : STATE;
    }

    private static void once(Scene scene) {
        String let = next(scene);
        limits(scene, "2 comes", 0, 60, ARGUMENT, let, (x, v) -> x.once(v, 1, 1, 0, 0));
        limits(scene, "2 length", 1, 8, ARGUMENT, let, (x, v) -> x.once(0, v, 1, 0, 0));
        limits(scene, "2 term", 1, 40, ARGUMENT, let, (x, v) -> x.once(0, 1, v, 0, 0));
        limits(scene, "2 rank", 0, 9, ARGUMENT, let, (x, v) -> x.once(0, 1, 1, v, 0));
        limits(scene, "2 gain", 0, 99, ARGUMENT, let, (x, v) -> x.once(0, 1, 1, 0, v));
        scene.answers("2 all at most", let, x -> x.once(60, 8, 40, 9, 99));
    }

    private static void every(Scene scene) {
        String let = next(scene);
        limits(scene, "3 comes", 0, 60, ARGUMENT, let, (x, v) -> x.every(v, 1, 8, 0));
        limits(scene, "3 length", 1, 8, ARGUMENT, let, (x, v) -> x.every(0, v, 8, 0));
        limits(scene, "3 period", 4, 60, ARGUMENT, let, (x, v) -> x.every(0, 1, v, 0));
        limits(scene, "3 rank", 0, 9, ARGUMENT, let, (x, v) -> x.every(0, 1, 8, v));
        for (int period : new int[] {0, 1, 2, 3, 7, 9, 11, 14, 16, 18, 25, 32, 48, 50, 59, 61, 80, 120, 240, -4, -8, -60}) {
            scene.answers("3 period " + period, ARGUMENT, x -> x.every(0, 1, period, 0));
        }
        for (int period : new int[] {4, 5, 6, 8}) {
            scene.answers("3 as long as PERIOD " + period, let, x -> x.every(0, period, period, 0));
        }
        int[][] longer = {{5, 4}, {8, 4}, {6, 5}, {7, 6}, {8, 6}};
        for (int[] l : longer) {
            scene.answers("3 " + l[0] + " long, PERIOD " + l[1], ARGUMENT, x -> x.every(0, l[0], l[1], 0));
        }
    }

    private static void strike(Scene scene) {
        noJob(scene, "4 strike", (x, v) -> x.strike(v));
        if (scene != Scene.EMPTY) {
            String let = scene == Scene.TOLD ? "3" : scene == Scene.FULL ? "11" : STATE;
            for (int job = 0; job < 4; job++) {
                int j = job;
                scene.answers("4 strike(" + job + ")", let, x -> x.strike(j));
            }
        }
    }

    private static void needs(Scene scene) {
        for (boolean isNeeded : new boolean[] {true, false}) {
            noJob(scene, "5 job", (x, v) -> x.needs(v, 0, isNeeded));
            noJob(scene, "5 other", (x, v) -> x.needs(0, v, isNeeded));
            noJob(scene, "5 other of a REPEATING job", (x, v) -> x.needs(1, v, isNeeded));
            noJob(scene, "5 both, and the same", (x, v) -> x.needs(v, v, isNeeded));
            for (int job = 0; job < 4; job++) {
                int j = job;
                scene.answers("5 the same " + job, ARGUMENT, x -> x.needs(j, j, isNeeded));
            }
            scene.answers("5 REPEATING", STATE, x -> x.needs(1, 0, isNeeded));
            scene.answers("5 REPEATING other", STATE, x -> x.needs(0, 1, isNeeded));
            scene.answers("5 ONCE jobs", scene.isAtZero() ? "0" : STATE, x -> x.needs(2, 0, isNeeded));
            scene.answers("5 what it needs", scene.isAtZero() ? "1" : STATE, x -> x.needs(3, 0, isNeeded));
        }
        scene.answers("5 round", scene.isAtZero() ? "-9" : STATE, x -> x.needs(0, 3, true));
        scene.answers("5 not to need who needs it", scene.isAtZero() ? "0" : STATE, x -> x.needs(0, 3, false));
    }

    private static void section(Scene scene) {
        String one = scene.isAtZero() ? "1" : STATE;
        String two = scene.isAtZero() ? "2" : STATE;
        noJob(scene, "6 section", (x, v) -> x.section(v, 0, 0, 1));
        noJob(scene, "6 section with a wrong LOCK", (x, v) -> x.section(v, 4, 0, 1));
        noJob(scene, "6 section with a wrong to", (x, v) -> x.section(v, 0, -1, 9));
        limits(scene, "6 lock", 0, 3, INDEX, scene.isAtZero() ? "1" : STATE, (x, v) -> x.section(3, v, 0, 1));
        limits(scene, "6 lock with a wrong from", 0, 3, INDEX, ARGUMENT, (x, v) -> x.section(3, v, 2, 1));
        limits(scene, "6 lock of one with a BUDGET", 0, 3, INDEX, STATE, (x, v) -> x.section(1, v, 0, 1));
        String let = scene.isAtZero() ? "" : STATE;
        limits(scene, "6 from", 0, 4, ARGUMENT, let, (x, v) -> x.section(0, 1, v, 4));
        limits(scene, "6 from with to 1", 0, 1, ARGUMENT, let, (x, v) -> x.section(0, 1, v, 1));
        limits(scene, "6 to", 0, 4, ARGUMENT, let, (x, v) -> x.section(0, 1, 0, v));
        limits(scene, "6 to with from 3", 3, 4, ARGUMENT, let, (x, v) -> x.section(0, 1, 3, v));
        limits(scene, "6 from as to", 0, 4, ARGUMENT, one, (x, v) -> x.section(0, 2, v, v));
        scene.answers("6 the longest", two, x -> x.section(0, 2, 0, 4));
        scene.answers("6 the last minute", two, x -> x.section(0, 0, 3, 4));
        scene.answers("6 in place of that before", one, x -> x.section(0, 1, 3, 4));
        scene.answers("6 one too long", ARGUMENT, x -> x.section(0, 2, 0, 5));
        scene.answers("6 LENGTH 6", two, x -> x.section(2, 0, 0, 6));
        scene.answers("6 LENGTH 6, one too long", ARGUMENT, x -> x.section(2, 0, 0, 7));
        scene.answers("6 with a BUDGET", STATE, x -> x.section(1, 0, 0, 3));
        scene.answers("6 with a BUDGET, none", STATE, x -> x.section(1, 0, 0, 0));
        scene.answers("6 with a BUDGET, one too long", ARGUMENT, x -> x.section(1, 0, 0, 4));
        scene.answers("6 with a BUDGET, from above to", ARGUMENT, x -> x.section(1, 0, 1, 0));
    }

    private static void budget(Scene scene) {
        String before = scene.isAtZero() ? "2" : STATE;
        String none = scene.isAtZero() ? "0" : STATE;
        noJob(scene, "7 budget", (x, v) -> x.budget(v, 1, 2));
        noJob(scene, "7 budget with a wrong number", (x, v) -> x.budget(v, 9, 1));
        limits(scene, "7 minutes", 0, 8, ARGUMENT, before, (x, v) -> x.budget(1, v, 2));
        limits(scene, "7 refill", 2, 30, ARGUMENT, before, (x, v) -> x.budget(1, 8, v));
        limits(scene, "7 refill of none", 2, 30, ARGUMENT, before, (x, v) -> x.budget(1, 0, v));
        limits(scene, "7 minutes of one without", 0, 8, ARGUMENT, none, (x, v) -> x.budget(3, v, 30));
        limits(scene, "7 minutes with a SECTION", 0, 8, ARGUMENT, STATE, (x, v) -> x.budget(0, v, 2));
        limits(scene, "7 refill with a SECTION", 2, 30, ARGUMENT, STATE, (x, v) -> x.budget(2, 0, v));
    }

    private static void rulesAndUndo(Scene scene) {
        String before = !scene.isAtZero() ? STATE : scene == Scene.EMPTY ? "0" : "3";
        limits(scene, "8 mode", 0, 3, ARGUMENT, before, (x, v) -> x.rules(v, 1, 0, 0));
        limits(scene, "8 quantum", 1, 5, ARGUMENT, before, (x, v) -> x.rules(0, v, 0, 0));
        limits(scene, "8 aging", 0, 10, ARGUMENT, before, (x, v) -> x.rules(0, 1, v, 0));
        limits(scene, "8 protocol", 0, 2, ARGUMENT, before, (x, v) -> x.rules(0, 1, 0, v));
        scene.answers("9 undo", scene == Scene.TOLD || scene == Scene.FULL ? "7" : STATE, x -> x.undo());
    }

    // ---- the run

    private static void run(Scene scene) {
        limits(scene, "10 minutes", 1, 60, ARGUMENT, scene == Scene.ENDED ? STATE : "", (x, v) -> x.run(v));
        String now = scene == Scene.RUNNING ? "7" : scene == Scene.ENDED ? "300" : "0";
        scene.answers("11 again", now, x -> x.again());
    }

    private static void runUpToTheEnd() {
        for (int left = 1; left <= 61; left++) {
            Deadlinekeeper x = Scene.TOLD.keeper();
            int before = 300 - left;
            for (int k = 0; k < before; k += 60) {
                x.run(Math.min(60, before - k));
            }
            String there = Scene.portrait(x);
            int most = left;
            if (left < 60) {
                Check.noState("10 beyond 300 by one", () -> x.run(most + 1));
                Check.noState("10 beyond 300", () -> x.run(60));
            }
            Check.noArgument("10 argument ahead of state", () -> x.run(61));
            Check.is("10 a refused run runs nothing", Scene.portrait(x), there);
            x.run(Math.min(60, left));
            Check.is("10 NOW", x.ofAll(0), before + Math.min(60, left));
        }
    }

    // ---- questions

    private static void ofAllThere(Scene scene) {
        noLock(scene, "14 ceiling", (x, v) -> x.ceiling(v));
        noLock(scene, "36 holder", (x, v) -> x.holder(v));
        limits(scene, "15 plan", 0, 7, ARGUMENT, "", (x, v) -> x.plan(v));
        limits(scene, "17 time", -1, 300, ARGUMENT, "", (x, v) -> x.near(v, 0));
        for (int way = 0; way < 4; way++) {
            int w = way;
            scene.answers("17 NONE", "-9", x -> x.near(-1, w));
            scene.answers("17 ahead of NONE", ARGUMENT, x -> x.near(-2, w));
        }
        limits(scene, "17 way", 0, 3, ARGUMENT, "", (x, v) -> x.near(0, v));
        limits(scene, "17 way with NONE", 0, 3, ARGUMENT, "-9", (x, v) -> x.near(-1, v));
        limits(scene, "17 way at 301", 0, 3, ARGUMENT, ARGUMENT, (x, v) -> x.near(301, v));
        scene.answers("16 edge", scene == Scene.EMPTY ? "-9" : "0", x -> x.edge(false));
        scene.answers("16 last edge", scene == Scene.EMPTY ? "-9" : scene == Scene.FULL ? "11" : "5", x -> x.edge(true));
    }

    private static void ahead(Scene scene) {
        limits(scene, "20 crowd", 0, 2, ARGUMENT, "", (x, v) -> x.crowd(v));
        limits(scene, "24 nextIdle", 0, 300, ARGUMENT, "", (x, v) -> x.nextIdle(v));
        limits(scene, "25 pick", 0, 2, ARGUMENT, "", (x, v) -> x.pick(v));
        limits(scene, "26 cutting", 0, 1, ARGUMENT, "", (x, v) -> x.cutting(false, v));
        limits(scene, "26 cutting by rule", 0, 1, ARGUMENT, "", (x, v) -> x.cutting(true, v));
    }

    interface Stretch {
        Object of(Deadlinekeeper x, int from, int to);
    }

    private static void stretches(Scene scene) {
        stretch(scene, "18 load", (x, from, to) -> x.load(from, to));
        stretch(scene, "19 work", (x, from, to) -> x.work(from, to));
        stretch(scene, "23 idle", (x, from, to) -> x.idle(from, to));
        int now = scene.keeper().ofAll(0);
        for (int from : new int[] {LEAST, -2, -1}) {
            for (int to : new int[] {LEAST, -3, -1, 0, now, now + 1, MOST}) {
                scene.answers("32 trace from " + from + " to " + to, ARGUMENT, x -> x.trace(from, to));
            }
        }
        for (int from : new int[] {0, now, now + 1, MOST}) {
            for (int to : new int[] {LEAST, -1, from - 1, now + 1, MOST}) {
                scene.answers("32 trace from " + from + " to " + to, "-9", x -> x.trace(from, to));
            }
        }
        for (int from : new int[] {0, now / 2, now}) {
            scene.answers("32 trace from as to " + from, "", x -> x.trace(from, from));
        }
        scene.lets("32 trace of all", x -> x.trace(0, now));
    }

    private static void stretch(Scene scene, String name, Stretch call) {
        limits(scene, name + " from", 0, 300, ARGUMENT, "", (x, v) -> call.of(x, v, 300));
        limits(scene, name + " to", 0, 300, ARGUMENT, "", (x, v) -> call.of(x, 0, v));
        limits(scene, name + " from, with to 0", 1, 300, v -> v == 0 ? "0" : ARGUMENT, "-9", (x, v) -> call.of(x, v, 0));
        limits(scene, name + " to, with from 300", 0, 299, v -> v == 300 ? "0" : ARGUMENT, "-9",
                (x, v) -> call.of(x, 300, v));
        limits(scene, name + " from and to", 0, 300, ARGUMENT, "0", (x, v) -> call.of(x, v, v));
        limits(scene, name + " from, with a wrong to", 0, 300, ARGUMENT, ARGUMENT, (x, v) -> call.of(x, v, -1));
        limits(scene, name + " from, with another wrong to", 0, 300, ARGUMENT, ARGUMENT, (x, v) -> call.of(x, v, 301));
        for (int to : new int[] {0, 1, 7, 150, 299}) {
            scene.answers(name + " from just above to", "-9", x -> call.of(x, to + 1, to));
        }
    }

    interface Due {
        String of(int number);
    }

    /** As limits, where the numbers beyond are not all refused alike. */
    private static void limits(Scene scene, String name, int least, int most, Due beyond, String let, With call) {
        for (int number : new int[] {LEAST, least - 1, most + 1, MOST}) {
            scene.answers(name + " with " + number, beyond.of(number), x -> call.of(x, number));
        }
        scene.answers(name + " with " + least, let, x -> call.of(x, least));
        scene.answers(name + " with " + most, let, x -> call.of(x, most));
    }

    private static void ofJobs(Scene scene) {
        noJob(scene, "12 ofJob", (x, v) -> x.ofJob(v, 0));
        noJob(scene, "12 ofJob with a wrong what", (x, v) -> x.ofJob(v, 10));
        noJob(scene, "13 ofSection", (x, v) -> x.ofSection(v, 0, true));
        noJob(scene, "13 ofSection with a wrong LOCK", (x, v) -> x.ofSection(v, 4, false));
        noJob(scene, "33 ofTask", (x, v) -> x.ofTask(v, 0));
        noJob(scene, "33 ofTask with a wrong what", (x, v) -> x.ofTask(v, -1));
        noJob(scene, "34 ofRun", (x, v) -> x.ofRun(v, 0));
        noJob(scene, "34 ofRun with a wrong what", (x, v) -> x.ofRun(v, 8));
        for (int job = 0; job < 4; job++) {
            int j = job;
            limits(scene, "12 what", 0, 9, ARGUMENT, "", (x, v) -> x.ofJob(j, v));
            noLock(scene, "13 lock", (x, v) -> x.ofSection(j, v, true));
            noLock(scene, "13 lock", (x, v) -> x.ofSection(j, v, false));
            limits(scene, "33 what", 0, 9, ARGUMENT, "", (x, v) -> x.ofTask(j, v));
            limits(scene, "34 what", 0, 7, ARGUMENT, "", (x, v) -> x.ofRun(j, v));
        }
    }

    private static void aheadOfJobs(Scene scene) {
        noJob(scene, "21 end", (x, v) -> x.end(v));
        noJob(scene, "28 response", (x, v) -> x.response(v));
        noJob(scene, "30 piece", (x, v) -> x.piece(v, 0, true));
        noJob(scene, "30 piece with a wrong machine", (x, v) -> x.piece(v, 2, false));
        scene.answers("21 REPEATING", STATE, x -> x.end(1));
        scene.lets("28 REPEATING", x -> x.response(1));
        for (int job : new int[] {0, 2, 3}) {
            scene.answers("28 ONCE", STATE, x -> x.response(job));
            scene.lets("21 ONCE", x -> x.end(job));
        }
        for (boolean isEnd : new boolean[] {true, false}) {
            limits(scene, "30 machine", 0, 1, ARGUMENT, "", (x, v) -> x.piece(0, v, isEnd));
            limits(scene, "30 machine of a REPEATING job", 0, 1, ARGUMENT, STATE, (x, v) -> x.piece(1, v, isEnd));
        }
    }

    private static void ofTheRun(Scene scene) {
        Deadlinekeeper there = scene.keeper();
        int now = there.ofAll(0);
        limits(scene, "35 ofAll", 0, 8, ARGUMENT, "", (x, v) -> x.ofAll(v));
        if (now == 0) {
            limits(scene, "31 ran at 0", 0, 0, INDEX, INDEX, (x, v) -> x.ran(v));
        } else {
            limits(scene, "31 ran", 0, now - 1, INDEX, "", (x, v) -> x.ran(v));
        }
        // With MODE 3 all TASKS that are there are in the QUEUE.
        int size = Integer.bitCount(there.ofAll(5));
        if (size == 0) {
            limits(scene, "37 queued, the QUEUE is empty", 0, 0, INDEX, INDEX, (x, v) -> x.queued(v));
        } else {
            limits(scene, "37 queued", 0, size - 1, INDEX, "", (x, v) -> x.queued(v));
        }
    }

    /** Without JOBS there is no number that is one, so that this goes ahead of all else. */
    private static void withoutJobs() {
        Scene scene = Scene.EMPTY;
        for (int job : new int[] {LEAST, -1, 0, 1, 11, 12, MOST}) {
            scene.answers("4 strike", INDEX, x -> x.strike(job));
            scene.answers("5 needs", INDEX, x -> x.needs(job, job, true));
            scene.answers("6 section", INDEX, x -> x.section(job, 0, 0, 1));
            scene.answers("6 section", INDEX, x -> x.section(job, 9, 9, 1));
            scene.answers("7 budget", INDEX, x -> x.budget(job, -1, 2));
            scene.answers("12 ofJob", INDEX, x -> x.ofJob(job, -1));
            scene.answers("13 ofSection", INDEX, x -> x.ofSection(job, 0, true));
            scene.answers("21 end", INDEX, x -> x.end(job));
            scene.answers("28 response", INDEX, x -> x.response(job));
            scene.answers("30 piece", INDEX, x -> x.piece(job, 2, true));
            scene.answers("33 ofTask", INDEX, x -> x.ofTask(job, 10));
            scene.answers("34 ofRun", INDEX, x -> x.ofRun(job, 8));
        }
    }

    private static void questionsChangeNothing() {
        for (Scene scene : Scene.values()) {
            Deadlinekeeper x = scene.keeper();
            for (int what = 0; what <= 2; what++) {
                x.plan(what);
                x.crowd(what);
                x.pick(what);
                x.ofAll(what);
            }
            x.near(3, 2);
            x.load(0, 20);
            x.work(0, 20);
            x.idle(0, 20);
            x.nextIdle(0);
            x.late();
            x.share();
            x.last();
            x.cutting(true, 0);
            x.cutting(false, 0);
            x.isSound();
            x.digest();
            if (scene != Scene.EMPTY) {
                x.ofJob(0, 7);
                x.ofSection(0, 1, true);
                x.end(0);
                x.response(1);
                x.piece(0, 0, true);
                x.ofTask(1, 5);
                x.ofRun(1, 6);
            }
            scene.unchanged("questions at " + scene, x);
        }
    }
}
