import java.util.function.Consumer;

/** What a keeper can stand at when a call comes; each is built anew for each call, so that no call sees another one. */
enum Scene {
    /** Nothing was told. */
    EMPTY(x -> { }),
    /** JOBS 0 to 3 (4 was struck) with all that a JOB can have; more STEPS than can be undone; NOW is 0. */
    TOLD(Scene::tell),
    /** The same, with eight more JOBS, so that there are 12. */
    FULL(x -> {
        tell(x);
        for (int job = 4; job < 12; job++) {
            x.once(job, 2, 12, job % 10, job);
        }
    }),
    /** The PLAN of TOLD, seven minutes later. */
    RUNNING(x -> {
        tell(x);
        x.run(7);
    }),
    /** The PLAN of TOLD, with NOW at 300. */
    ENDED(x -> {
        tell(x);
        for (int k = 0; k < 5; k++) {
            x.run(60);
        }
    });

    interface Call {
        Object of(Deadlinekeeper x);
    }

    private final Consumer<Deadlinekeeper> script;

    Scene(Consumer<Deadlinekeeper> script) {
        this.script = script;
    }

    private static void tell(Deadlinekeeper x) {
        x.once(2, 4, 20, 3, 10);
        x.every(0, 3, 8, 5);
        x.once(0, 6, 40, 1, 20);
        x.once(5, 2, 9, 7, 30);
        x.every(1, 2, 12, 2);
        x.section(0, 1, 1, 3);
        x.section(2, 1, 0, 6);
        x.budget(1, 2, 9);
        x.needs(3, 0, true);
        x.rules(3, 2, 2, 1);
        x.strike(4);
    }

    Deadlinekeeper keeper() {
        Deadlinekeeper x = new Deadlinekeeper();
        script.accept(x);
        return x;
    }

    boolean isAtZero() {
        return this == EMPTY || this == TOLD || this == FULL;
    }

    /** All that can be seen of a keeper without changing it: all that digest() has in it, and the rest. */
    static String portrait(Deadlinekeeper x) {
        StringBuilder text = new StringBuilder();
        text.append(x.digest()).append(' ').append(x.trace(0, x.ofAll(0)));
        for (int k = 0; k < 12; k++) {
            text.append(' ').append(Check.outcome(at(x, k)));
        }
        return text.append(' ').append(x.edge(false)).append(' ').append(x.edge(true)).toString();
    }

    private static Check.Call at(Deadlinekeeper x, int k) {
        return () -> x.queued(k);
    }

    /** What it will yet answer: knocks, the run from here on, each STEP back, and a run of the PLAN that is left. */
    static String future(Deadlinekeeper x) {
        StringBuilder text = new StringBuilder(portrait(x));
        text.append(' ').append(x.knock()).append(' ').append(Check.outcome(() -> x.run(3))).append(portrait(x));
        text.append(' ').append(x.again()).append(' ').append(portrait(x));
        while (x.plan(7) > 0) {
            text.append(' ').append(x.undo()).append(' ').append(portrait(x));
        }
        return text.append(x.run(9)).append(' ').append(portrait(x)).toString();
    }

    /** The call has to answer as is due here; if that is a refusal or -9, all has to be as if it had not come. */
    void answers(String name, String due, Call call) {
        Deadlinekeeper x = keeper();
        String got = Check.outcome(() -> call.of(x));
        String full = name + " at " + this;
        Check.is(full, got, due);
        if (due.startsWith("throws.") || due.equals("-9")) {
            unchanged(full, x);
        }
    }

    /** The call has to be let here, whatever it answers. */
    void lets(String name, Call call) {
        Deadlinekeeper x = keeper();
        String got = Check.outcome(() -> call.of(x));
        Check.is(name + " at " + this + " is let, but " + got, got.startsWith("throws."), false);
    }

    /** A question changes nothing, whether it is answered or not. */
    void unchanged(String name, Deadlinekeeper x) {
        Check.is(name + " changes nothing", future(x), future(keeper()));
    }
}
