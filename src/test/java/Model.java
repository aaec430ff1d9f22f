import java.util.ArrayDeque;
import java.util.ArrayList;
import java.util.Arrays;
import java.util.Comparator;
import java.util.Deque;
import java.util.List;
import java.util.Map;
import java.util.TreeMap;
import java.util.TreeSet;
import java.util.function.IntPredicate;

/**
 * The document written a second time, as plainly as can be and in another way than the class: the run is told from
 * what was done in each minute, and what can be told ahead by trying all there is. ModelTest holds both side by side.
 */
final class Model {
    static final class Job {
        int comes;
        int length;
        int due = -1;
        int period;
        int rank;
        int gain;
        int budget;
        int refill;
        TreeSet<Integer> needs = new TreeSet<>();
        int[][] sections = new int[4][];

        Job copy() {
            Job job = new Job();
            job.comes = comes;
            job.length = length;
            job.due = due;
            job.period = period;
            job.rank = rank;
            job.gain = gain;
            job.budget = budget;
            job.refill = refill;
            job.needs = new TreeSet<>(needs);
            job.sections = sections.clone();
            return job;
        }

        boolean isOnce() {
            return period == 0;
        }

        boolean hasSections() {
            for (int[] section : sections) {
                if (section != null) {
                    return true;
                }
            }
            return false;
        }

        boolean comesAt(int time) {
            return isOnce() ? time == comes : time >= comes && (time - comes) % period == 0;
        }
    }

    static final class Plan {
        TreeMap<Integer, Job> jobs = new TreeMap<>();
        int mode;
        int quantum = 2;
        int aging;
        int protocol;

        Plan copy() {
            Plan plan = new Plan();
            jobs.forEach((number, job) -> plan.jobs.put(number, job.copy()));
            plan.mode = mode;
            plan.quantum = quantum;
            plan.aging = aging;
            plan.protocol = protocol;
            return plan;
        }

        TreeMap<Integer, Job> onces() {
            TreeMap<Integer, Job> found = new TreeMap<>(jobs);
            found.values().removeIf(job -> !job.isOnce());
            return found;
        }

        int ceiling(int lock) {
            return jobs.values().stream().filter(j -> j.sections[lock] != null).mapToInt(j -> j.rank).max().orElse(-1);
        }

        boolean needs(int job, int other) {
            return jobs.get(job).needs.contains(other)
                    || jobs.get(job).needs.stream().anyMatch(between -> needs(between, other));
        }
    }

    private static final List<String> TELLING = List.of("once", "every", "strike", "needs", "section", "budget", "rules",
            "undo");

    Plan plan = new Plan();
    private final Deque<Plan> steps = new ArrayDeque<>();
    private int knocks;
    private ModelRun run = new ModelRun(plan);
    /** What was told ahead since the PLAN was told last, as it takes long. */
    private final Map<String, Object> known = new TreeMap<>();

    private static void index(boolean isLet) {
        if (!isLet) {
            throw new IndexOutOfBoundsException();
        }
    }

    private static void argument(boolean isLet) {
        if (!isLet) {
            throw new IllegalArgumentException();
        }
    }

    private static void state(boolean isLet) {
        if (!isLet) {
            throw new IllegalStateException();
        }
    }

    private static boolean in(int number, int least, int most) {
        return least <= number && number <= most;
    }

    static int setOf(IntPredicate isIn) {
        int set = 0;
        for (int k = 0; k < 12; k++) {
            set += isIn.test(k) ? 1 << k : 0;
        }
        return set;
    }

    private Job job(int number) {
        index(plan.jobs.containsKey(number));
        return plan.jobs.get(number);
    }

    private void step() {
        steps.push(plan.copy());
        if (steps.size() > 8) {
            steps.removeLast();
        }
    }

    private int add(Job job) {
        int number = 0;
        while (plan.jobs.containsKey(number)) {
            number++;
        }
        state(run.now == 0 && number < 12);
        step();
        plan.jobs.put(number, job);
        return number;
    }

    Object call(String name, int[] a) {
        if (TELLING.contains(name)) {
            known.clear();
        }
        switch (name) {
            case "once":
                argument(in(a[0], 0, 60) && in(a[1], 1, 8) && in(a[2], 1, 40) && in(a[3], 0, 9) && in(a[4], 0, 99));
                Job once = new Job();
                once.comes = a[0];
                once.length = a[1];
                once.due = a[0] + a[2];
                once.rank = a[3];
                once.gain = a[4];
                return add(once);
            case "every":
                argument(in(a[0], 0, 60) && in(a[1], 1, 8) && in(a[2], 4, 60) && 120 % a[2] == 0 && a[2] >= a[1]
                        && in(a[3], 0, 9));
                Job every = new Job();
                every.comes = a[0];
                every.length = a[1];
                every.period = a[2];
                every.rank = a[3];
                return add(every);
            case "strike":
                job(a[0]);
                state(run.now == 0);
                step();
                plan.jobs.remove(a[0]);
                plan.jobs.values().forEach(job -> job.needs.remove(a[0]));
                return plan.jobs.size();
            case "needs":
                return needs(a[0], a[1], a[2] != 0);
            case "section":
                return section(a[0], a[1], a[2], a[3]);
            case "budget":
                return budget(a[0], a[1], a[2]);
            case "rules":
                argument(in(a[0], 0, 3) && in(a[1], 1, 5) && in(a[2], 0, 10) && in(a[3], 0, 2));
                state(run.now == 0);
                step();
                int before = plan.mode;
                plan.mode = a[0];
                plan.quantum = a[1];
                plan.aging = a[2];
                plan.protocol = a[3];
                return before;
            case "undo":
                state(run.now == 0 && !steps.isEmpty());
                plan = steps.pop();
                run = new ModelRun(plan);
                return steps.size();
            case "run":
                argument(in(a[0], 1, 60));
                state(run.now + a[0] <= 300);
                int empty = 0;
                for (int k = 0; k < a[0]; k++) {
                    empty += run.minute() == null ? 1 : 0;
                }
                return empty;
            case "again":
                int now = run.now;
                run = new ModelRun(plan);
                return now;
            case "knock":
                return ++knocks;
            default:
                return ask(name, a);
        }
    }

    private int needs(int job, int other, boolean isNeeded) {
        job(job);
        job(other);
        argument(job != other);
        state(run.now == 0 && job(job).isOnce() && job(other).isOnce());
        if (isNeeded && plan.needs(other, job)) {
            return -9;
        }
        step();
        boolean did = job(job).needs.contains(other);
        if (isNeeded) {
            job(job).needs.add(other);
        } else {
            job(job).needs.remove(other);
        }
        return did ? 1 : 0;
    }

    private int section(int number, int lock, int from, int to) {
        Job job = job(number);
        index(in(lock, 0, 3));
        argument(from >= 0 && to <= job.length && from <= to);
        state(run.now == 0 && job.budget == 0);
        step();
        job.sections[lock] = from == to ? null : new int[] {from, to};
        int count = 0;
        for (int[] section : job.sections) {
            count += section == null ? 0 : 1;
        }
        return count;
    }

    private int budget(int number, int minutes, int refill) {
        Job job = job(number);
        argument(in(minutes, 0, 8) && in(refill, 2, 30));
        state(run.now == 0 && !job.hasSections());
        step();
        int before = job.budget;
        job.budget = minutes;
        job.refill = minutes > 0 ? refill : 0;
        return before;
    }

    private Object ask(String name, int[] a) {
        switch (name) {
            case "ofJob":
                return ofJob(job(a[0]), a[0], a[1]);
            case "ofSection":
                int[] section = job(a[0]).sections[lock(a[1])];
                return section == null ? -1 : section[a[2] != 0 ? 1 : 0];
            case "ceiling":
                return plan.ceiling(lock(a[0]));
            case "plan":
                argument(in(a[0], 0, 7));
                return new int[] {plan.jobs.size(), setOf(plan.jobs::containsKey), setOf(plan.onces()::containsKey),
                    plan.mode, plan.quantum, plan.aging, plan.protocol, steps.size()}[a[0]];
            case "edge":
                TreeSet<Integer> times = comes();
                return times.isEmpty() ? -9 : a[0] != 0 ? times.last() : times.first();
            case "near":
                return near(a[0], a[1]);
            case "ran":
                index(in(a[0], 0, run.now - 1));
                return run.jobAt(a[0]);
            case "trace":
                return trace(a[0], a[1]);
            case "ofTask":
                job(a[0]);
                argument(in(a[1], 0, 9));
                return run.ofTask(a[0], a[1]);
            case "ofRun":
                job(a[0]);
                argument(in(a[1], 0, 7));
                return run.ofRun(a[0], a[1]);
            case "ofAll":
                argument(in(a[0], 0, 8));
                return run.ofAll(a[0]);
            case "holder":
                return run.holder(lock(a[0]));
            case "queued":
                index(in(a[0], 0, run.queue.size() - 1));
                return run.queue.get(a[0]).number;
            case "isSound":
                return true;
            case "digest":
                return digest();
            default:
                return askAhead(name, a);
        }
    }

    private static int lock(int lock) {
        index(in(lock, 0, 3));
        return lock;
    }

    private int ofJob(Job job, int number, int what) {
        argument(in(what, 0, 9));
        return new int[] {job.comes, job.length, job.period, job.due, job.rank, job.gain, setOf(job.needs::contains),
            setOf(other -> plan.needs(number, other)), job.budget, job.refill}[what];
    }

    private TreeSet<Integer> comes() {
        TreeSet<Integer> times = new TreeSet<>();
        plan.jobs.values().forEach(job -> times.add(job.comes));
        return times;
    }

    private int near(int time, int way) {
        argument(in(time, -1, 300) && in(way, 0, 3));
        if (time == -1) {
            return -9;
        }
        TreeSet<Integer> times = comes();
        Integer found = way == 0 ? times.floor(time) : way == 1 ? times.lower(time)
                : way == 2 ? times.ceiling(time) : times.higher(time);
        return found == null ? -1 : found;
    }

    private String trace(int from, int to) {
        argument(from >= 0);
        if (from > to || to > run.now) {
            return "-9";
        }
        StringBuilder text = new StringBuilder();
        for (int minute = from; minute < to; minute++) {
            text.append(".abcdefghijkl".charAt(run.jobAt(minute) + 1));
        }
        return text.toString();
    }

    // ---- ahead

    private int load(int set, int from, int to) {
        int sum = 0;
        for (Map.Entry<Integer, Job> e : plan.jobs.entrySet()) {
            Job job = e.getValue();
            boolean isIn = (set >> e.getKey() & 1) != 0 && job.isOnce();
            sum += isIn && job.comes >= from && job.due <= to ? job.length : 0;
        }
        return sum;
    }

    /** Of all stretches from 0 to 100 the fullest; those that begin or end with no job can't be better. */
    private int[] fullest(int set) {
        int[] best = {0, -1, -1};
        for (int from = 0; from < 60 + 1; from++) {
            for (int to = from + 1; to <= 100; to++) {
                int crowd = load(set, from, to) - (to - from);
                if (crowd > best[0]) {
                    best = new int[] {crowd, from, to};
                }
            }
        }
        return best;
    }

    /** The minutes of the jobs of the set, run by deadlines; END by END. */
    private TreeMap<Integer, List<Integer>> eager(int set) {
        TreeMap<Integer, List<Integer>> minutes = new TreeMap<>();
        List<Integer> byDue = new ArrayList<>(plan.onces().keySet());
        byDue.removeIf(number -> (set >> number & 1) == 0);
        byDue.sort(Comparator.comparingInt((Integer number) -> plan.jobs.get(number).due).thenComparingInt(n -> n));
        byDue.forEach(number -> minutes.put(number, new ArrayList<>()));
        for (int time = 0; time < 300; time++) {
            for (int number : byDue) {
                Job job = plan.jobs.get(number);
                if (job.comes <= time && minutes.get(number).size() < job.length) {
                    minutes.get(number).add(time);
                    break;
                }
            }
        }
        return minutes;
    }

    private int lateOf(int set) {
        TreeMap<Integer, List<Integer>> minutes = eager(set);
        return setOf(n -> minutes.containsKey(n) && endOf(minutes, n) > plan.jobs.get(n).due);
    }

    private static int endOf(TreeMap<Integer, List<Integer>> minutes, int number) {
        List<Integer> own = minutes.get(number);
        return own.get(own.size() - 1) + 1;
    }

    private int gains(int set) {
        return plan.jobs.entrySet().stream().filter(e -> (set >> e.getKey() & 1) != 0)
                .mapToInt(e -> e.getValue().gain).sum();
    }

    private int picked() {
        List<Integer> units = new ArrayList<>(plan.onces().keySet());
        units.removeIf(number -> plan.jobs.get(number).length != 1);
        units.sort(Comparator.comparingInt((Integer number) -> -plan.jobs.get(number).gain).thenComparingInt(n -> n));
        int set = 0;
        for (int number : units) {
            set += lateOf(set + (1 << number)) == 0 ? 1 << number : 0;
        }
        return set;
    }

    private int keptByRule() {
        int set = setOf(plan.onces()::containsKey);
        int[] full = fullest(set);
        while (full[0] > 0) {
            List<Integer> within = new ArrayList<>();
            for (Map.Entry<Integer, Job> e : plan.onces().entrySet()) {
                if ((set >> e.getKey() & 1) != 0 && e.getValue().comes >= full[1] && e.getValue().due <= full[2]) {
                    within.add(e.getKey());
                }
            }
            within.sort(Comparator.comparingInt((Integer n) -> plan.jobs.get(n).gain)
                    .thenComparingInt(n -> -plan.jobs.get(n).length).thenComparingInt(n -> n));
            set -= 1 << within.get(0);
            full = fullest(set);
        }
        return set;
    }

    private int kept() {
        int onces = setOf(plan.onces()::containsKey);
        if (Integer.bitCount(onces) > 8) {
            return keptByRule();
        }
        int best = 0;
        for (int set = 0; set <= onces; set++) {
            if ((set & ~onces) == 0 && gains(set) > gains(best) && lateOf(set) == 0) {
                best = set;
            }
        }
        return best;
    }

    private int sum() {
        return plan.onces().values().stream().mapToInt(j -> j.length).sum();
    }

    private int last() {
        return Math.max(plan.onces().values().stream().mapToInt(j -> j.length).max().orElse(0), (sum() + 1) / 2);
    }

    private int piece(int number, int machine, boolean isEnd) {
        int unit = plan.onces().headMap(number).values().stream().mapToInt(j -> j.length).sum();
        TreeSet<Integer> places = new TreeSet<>();
        for (int k = unit; k < unit + plan.jobs.get(number).length; k++) {
            if (k / last() == machine) {
                places.add(k % last());
            }
        }
        return places.isEmpty() ? -1 : isEnd ? places.last() + 1 : places.first();
    }

    private int response(int number) {
        Job job = plan.jobs.get(number);
        for (int r = job.length; r <= job.period; r++) {
            int sum = job.length;
            for (Map.Entry<Integer, Job> e : plan.jobs.entrySet()) {
                Job other = e.getValue();
                if (e.getKey() != number && !other.isOnce() && other.rank >= job.rank) {
                    sum += other.length * (int) Math.ceil((double) r / other.period);
                }
            }
            if (sum == r) {
                return r;
            }
        }
        return -1;
    }

    private int work(int from, int to) {
        int sum = 0;
        for (int time = from; time < to; time++) {
            for (Job job : plan.jobs.values()) {
                sum += job.comesAt(time) ? job.length : 0;
            }
        }
        return sum;
    }

    private boolean isIdle(TreeMap<Integer, List<Integer>> minutes, int time) {
        return minutes.values().stream().noneMatch(own -> own.contains(time));
    }

    private int idle(int from, int to) {
        TreeMap<Integer, List<Integer>> minutes = eager(-1);
        int count = 0;
        for (int time = from; time < to; time++) {
            count += isIdle(minutes, time) ? 1 : 0;
        }
        return count;
    }

    private int nextIdle(int from) {
        TreeMap<Integer, List<Integer>> minutes = eager(-1);
        int time = from;
        while (!isIdle(minutes, time)) {
            time++;
        }
        return time;
    }

    private Object askAhead(String name, int[] a) {
        String question = name + Arrays.toString(a);
        if (!known.containsKey(question)) {
            known.put(question, toldAhead(name, a));
        }
        return known.get(question);
    }

    private Object toldAhead(String name, int[] a) {
        switch (name) {
            case "load":
                argument(in(a[0], 0, 300) && in(a[1], 0, 300));
                return a[0] > a[1] ? -9 : load(-1, a[0], a[1]);
            case "work":
                argument(in(a[0], 0, 300) && in(a[1], 0, 300));
                return a[0] > a[1] ? -9 : work(a[0], a[1]);
            case "idle":
                argument(in(a[0], 0, 300) && in(a[1], 0, 300));
                return a[0] > a[1] ? -9 : idle(a[0], a[1]);
            case "nextIdle":
                argument(in(a[0], 0, 300));
                return nextIdle(a[0]);
            case "crowd":
                argument(in(a[0], 0, 2));
                return fullest(-1)[a[0]];
            case "end":
                state(job(a[0]).isOnce());
                return endOf(eager(-1), a[0]);
            case "late":
                return lateOf(-1);
            case "pick":
                argument(in(a[0], 0, 2));
                return new int[] {picked(), gains(picked()), Integer.bitCount(picked())}[a[0]];
            case "cutting":
                argument(in(a[1], 0, 1));
                int kept = a[0] != 0 ? keptByRule() : kept();
                return a[1] == 0 ? setOf(plan.onces()::containsKey) - kept : gains(kept);
            case "share":
                return plan.jobs.values().stream().filter(j -> !j.isOnce()).mapToInt(j -> j.length * 120 / j.period)
                        .sum();
            case "response":
                state(!job(a[0]).isOnce());
                return response(a[0]);
            case "last":
                return last();
            case "piece":
                Job job = job(a[0]);
                argument(in(a[1], 0, 1));
                state(job.isOnce());
                return piece(a[0], a[1], a[2] != 0);
            default:
                throw new AssertionError(name);
        }
    }

    // ---- the digest

    private long d;

    private void mix(String name, int... a) {
        d = d * 31 + (Integer) ask(name, a);
    }

    private void mixAll(String name, int most, int... ahead) {
        int[] a = Arrays.copyOf(ahead, ahead.length + 1);
        for (int what = 0; what <= most; what++) {
            a[ahead.length] = what;
            mix(name, a);
        }
    }

    private long digest() {
        d = 5304;
        mixAll("plan", 7);
        mixAll("crowd", 2);
        mix("late");
        mix("idle", 0, 100);
        mixAll("pick", 2);
        mixAll("cutting", 1, 0);
        mixAll("cutting", 1, 1);
        mix("share");
        mix("last");
        for (int number : plan.jobs.keySet()) {
            d = d * 31 + number;
            mixAll("ofJob", 9, number);
            for (int lock = 0; lock < 4; lock++) {
                mixAll("ofSection", 1, number, lock);
            }
            if (plan.jobs.get(number).isOnce()) {
                mix("end", number);
                mixAll("piece", 1, number, 0);
                mixAll("piece", 1, number, 1);
            } else {
                mix("response", number);
            }
            mixAll("ofTask", 9, number);
            mixAll("ofRun", 7, number);
        }
        mixAll("ofAll", 8);
        for (int lock = 0; lock < 4; lock++) {
            mix("ceiling", lock);
            mix("holder", lock);
        }
        for (int minute = 0; minute < run.now; minute++) {
            mix("ran", minute);
        }
        return d * 31 + 1;
    }
}
