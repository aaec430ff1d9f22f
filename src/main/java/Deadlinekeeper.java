import java.util.Arrays;

/**
 * A keeper of deadlines. It holds a PLAN of at most twelve JOBS, tells ahead what will be too much,
 * and runs the PLAN minute by minute. The words in capitals are those of the document.
 */
public final class Deadlinekeeper {
    private static final int NONE = -1;
    private static final int CANNOT = -9;

    private static final int JOBS = 12;
    private static final int LOCKS = 4;
    private static final int MACHINES = 2;
    private static final int STEPS = 8;

    private static final int MOST_COMES = 60;
    private static final int MOST_LENGTH = 8;
    private static final int MOST_TERM = 40;
    private static final int MOST_RANK = 9;
    private static final int MOST_GAIN = 99;
    private static final int LEAST_PERIOD = 4;
    private static final int MOST_PERIOD = 60;
    private static final int ROUND = 120;
    private static final int MOST_BUDGET = 8;
    private static final int LEAST_REFILL = 2;
    private static final int MOST_REFILL = 30;
    private static final int MOST_QUANTUM = 5;
    private static final int MOST_AGING = 10;
    private static final int MOST_MINUTES = 60;
    private static final int MOST_NOW = 300;

    private static final int BY_DEADLINE = 0;
    private static final int BY_RANK = 1;
    private static final int BY_SHARE = 2;
    private static final int BY_TURN = 3;
    private static final int LENDING = 1;
    private static final int CEILINGS = 2;

    /** With more ONCE jobs than these, KEPT is told by rule alone. */
    private static final int MOST_FOR_BEST = 8;
    /** Behind this minute all ONCE jobs are done EAGER: the last comes at 60, and all are 96 long at most. */
    private static final int EAGER_MINUTES = MOST_COMES + JOBS * MOST_LENGTH;

    private static final long DIGEST_START = 5304;
    private static final int DIGEST_FACTOR = 31;
    private static final int DIGEST_IDLE_TO = 100;

    private final Plan plan;
    private final Steps steps;
    private final Forecast forecast;
    private final Course course;
    private int knocks;

    public Deadlinekeeper() {
        plan = new Plan();
        steps = new Steps();
        forecast = new Forecast(plan);
        course = new Course(plan);
    }

    // ---- the plan

    public int once(int comes, int length, int term, int rank, int gain)
            throws IllegalArgumentException, IllegalStateException {
        checkArgument(isWithin(comes, 0, MOST_COMES) && isWithin(length, 1, MOST_LENGTH)
                && isWithin(term, 1, MOST_TERM) && isWithin(rank, 0, MOST_RANK) && isWithin(gain, 0, MOST_GAIN));
        int job = plan.firstFree();
        checkState(isTelling() && job != NONE);
        steps.keep(plan);
        plan.put(job, comes, length, rank);
        plan.due[job] = comes + term;
        plan.gain[job] = gain;
        forecast.workOut();
        return job;
    }

    public int every(int comes, int length, int period, int rank)
            throws IllegalArgumentException, IllegalStateException {
        checkArgument(isWithin(comes, 0, MOST_COMES) && isWithin(length, 1, MOST_LENGTH)
                && isPeriod(period) && period >= length && isWithin(rank, 0, MOST_RANK));
        int job = plan.firstFree();
        checkState(isTelling() && job != NONE);
        steps.keep(plan);
        plan.put(job, comes, length, rank);
        plan.period[job] = period;
        return job;
    }

    public int strike(int job) throws IndexOutOfBoundsException, IllegalStateException {
        checkJob(job);
        checkState(isTelling());
        steps.keep(plan);
        plan.takeOut(job);
        forecast.workOut();
        return Integer.bitCount(plan.set);
    }

    public int needs(int job, int other, boolean isNeeded)
            throws IndexOutOfBoundsException, IllegalArgumentException, IllegalStateException {
        checkJob(job);
        checkJob(other);
        checkArgument(job != other);
        checkState(isTelling() && plan.isOnce(job) && plan.isOnce(other));
        if (isNeeded && isIn(job, plan.needsInAll(other))) {
            return CANNOT;
        }
        steps.keep(plan);
        boolean wasNeeded = isIn(other, plan.needed[job]);
        plan.needed[job] = isNeeded ? plan.needed[job] | 1 << other : plan.needed[job] & ~(1 << other);
        return wasNeeded ? 1 : 0;
    }

    public int section(int job, int lock, int from, int to)
            throws IndexOutOfBoundsException, IllegalArgumentException, IllegalStateException {
        checkJob(job);
        checkLock(lock);
        checkArgument(from >= 0 && to <= plan.length[job] && from <= to);
        checkState(isTelling() && plan.budget[job] == 0);
        steps.keep(plan);
        plan.setSection(job, lock, from, to);
        return plan.sectionsOf(job);
    }

    public int budget(int job, int minutes, int refill)
            throws IndexOutOfBoundsException, IllegalArgumentException, IllegalStateException {
        checkJob(job);
        checkArgument(isWithin(minutes, 0, MOST_BUDGET) && isWithin(refill, LEAST_REFILL, MOST_REFILL));
        checkState(isTelling() && plan.sectionsOf(job) == 0);
        steps.keep(plan);
        int before = plan.budget[job];
        plan.budget[job] = minutes;
        plan.refill[job] = minutes == 0 ? 0 : refill;
        return before;
    }

    public int rules(int mode, int quantum, int aging, int protocol)
            throws IllegalArgumentException, IllegalStateException {
        checkArgument(isWithin(mode, BY_DEADLINE, BY_TURN) && isWithin(quantum, 1, MOST_QUANTUM)
                && isWithin(aging, 0, MOST_AGING) && isWithin(protocol, 0, CEILINGS));
        checkState(isTelling());
        steps.keep(plan);
        int before = plan.mode;
        plan.mode = mode;
        plan.quantum = quantum;
        plan.aging = aging;
        plan.protocol = protocol;
        return before;
    }

    public int undo() throws IllegalStateException {
        checkState(isTelling() && steps.count > 0);
        steps.takeBack(plan);
        forecast.workOut();
        return steps.count;
    }

    // ---- the run

    public int run(int minutes) throws IllegalArgumentException, IllegalStateException {
        checkArgument(isWithin(minutes, 1, MOST_MINUTES));
        checkState(course.now + minutes <= MOST_NOW);
        return course.runFor(minutes);
    }

    public int again() {
        int before = course.now;
        course.clear();
        return before;
    }

    // ---- what the plan is

    public int ofJob(int job, int what) throws IndexOutOfBoundsException, IllegalArgumentException {
        checkJob(job);
        checkArgument(isWithin(what, 0, 9));
        switch (what) {
            case 0:
                return plan.comes[job];
            case 1:
                return plan.length[job];
            case 2:
                return plan.period[job];
            case 3:
                return plan.due[job];
            case 4:
                return plan.rank[job];
            case 5:
                return plan.gain[job];
            case 6:
                return plan.needed[job];
            case 7:
                return plan.needsInAll(job);
            case 8:
                return plan.budget[job];
            default:
                return plan.refill[job];
        }
    }

    public int ofSection(int job, int lock, boolean isTo) throws IndexOutOfBoundsException {
        checkJob(job);
        checkLock(lock);
        return isTo ? plan.to[placeOf(job, lock)] : plan.from[placeOf(job, lock)];
    }

    public int ceiling(int lock) throws IndexOutOfBoundsException {
        checkLock(lock);
        return plan.ceilingOf(lock);
    }

    public int plan(int what) throws IllegalArgumentException {
        checkArgument(isWithin(what, 0, 7));
        switch (what) {
            case 0:
                return Integer.bitCount(plan.set);
            case 1:
                return plan.set;
            case 2:
                return plan.onceSet();
            case 3:
                return plan.mode;
            case 4:
                return plan.quantum;
            case 5:
                return plan.aging;
            case 6:
                return plan.protocol;
            default:
                return steps.count;
        }
    }

    public int edge(boolean isLast) {
        if (plan.set == 0) {
            return CANNOT;
        }
        return isLast ? plan.latestUpTo(MOST_COMES) : plan.earliestFrom(0);
    }

    public int near(int time, int way) throws IllegalArgumentException {
        checkArgument(isWithin(time, NONE, MOST_NOW) && isWithin(way, 0, 3));
        if (time == NONE) {
            return CANNOT;
        }
        switch (way) {
            case 0:
                return plan.latestUpTo(time);
            case 1:
                return plan.latestUpTo(time - 1);
            case 2:
                return plan.earliestFrom(time);
            default:
                return plan.earliestFrom(time + 1);
        }
    }

    // ---- what can be told ahead

    public int load(int from, int to) throws IllegalArgumentException {
        checkTimes(from, to);
        return from > to ? CANNOT : plan.loadOf(plan.onceSet(), from, to);
    }

    public int work(int from, int to) throws IllegalArgumentException {
        checkTimes(from, to);
        return from > to ? CANNOT : plan.workAhead(to) - plan.workAhead(from);
    }

    public int crowd(int what) throws IllegalArgumentException {
        checkArgument(isWithin(what, 0, 2));
        if (what == 0) {
            return forecast.fullest.crowd;
        }
        return what == 1 ? forecast.fullest.from : forecast.fullest.to;
    }

    public int end(int job) throws IndexOutOfBoundsException, IllegalStateException {
        checkJob(job);
        checkState(plan.isOnce(job));
        return forecast.ends[job];
    }

    public int late() {
        return forecast.late;
    }

    public int idle(int from, int to) throws IllegalArgumentException {
        checkTimes(from, to);
        if (from > to) {
            return CANNOT;
        }
        int count = 0;
        for (int minute = from; minute < to; minute++) {
            count += forecast.isIdle(minute) ? 1 : 0;
        }
        return count;
    }

    public int nextIdle(int from) throws IllegalArgumentException {
        checkArgument(isWithin(from, 0, MOST_NOW));
        int minute = from;
        while (minute < EAGER_MINUTES && !forecast.isIdle(minute)) {
            minute++;
        }
        return minute;
    }

    public int pick(int what) throws IllegalArgumentException {
        checkArgument(isWithin(what, 0, 2));
        if (what == 0) {
            return forecast.picked;
        }
        return what == 1 ? plan.gainsOf(forecast.picked) : Integer.bitCount(forecast.picked);
    }

    public int cutting(boolean isRule, int what) throws IllegalArgumentException {
        checkArgument(isWithin(what, 0, 1));
        int kept = isRule ? forecast.keptByRule : forecast.kept;
        return what == 0 ? plan.onceSet() & ~kept : plan.gainsOf(kept);
    }

    public int share() {
        return plan.shareOfAll();
    }

    public int response(int job) throws IndexOutOfBoundsException, IllegalStateException {
        checkJob(job);
        checkState(!plan.isOnce(job));
        return plan.responseOf(job);
    }

    public int last() {
        return forecast.parts.last;
    }

    public int piece(int job, int machine, boolean isEnd)
            throws IndexOutOfBoundsException, IllegalArgumentException, IllegalStateException {
        checkJob(job);
        checkArgument(isWithin(machine, 0, MACHINES - 1));
        checkState(plan.isOnce(job));
        return isEnd ? forecast.parts.ends[machine][job] : forecast.parts.begins[machine][job];
    }

    // ---- what is asked of the run

    public int ran(int minute) throws IndexOutOfBoundsException {
        checkIndex(isWithin(minute, 0, course.now - 1));
        return course.ran[minute];
    }

    public String trace(int from, int to) throws IllegalArgumentException {
        checkArgument(from >= 0);
        if (from > to || to > course.now) {
            return "-9";
        }
        char[] signs = new char[to - from];
        for (int k = 0; k < signs.length; k++) {
            int job = course.ran[from + k];
            signs[k] = job == NONE ? '.' : (char) ('a' + job);
        }
        return new String(signs);
    }

    public int ofTask(int job, int what) throws IndexOutOfBoundsException, IllegalArgumentException {
        checkJob(job);
        checkArgument(isWithin(what, 0, 9));
        Task task = course.tasks[job];
        if (!task.isThere) {
            return what == 0 ? 0 : NONE;
        }
        switch (what) {
            case 0:
                return 1;
            case 1:
                return task.left;
            case 2:
                return task.came;
            case 3:
                return task.due;
            case 4:
                return task.waited;
            case 5:
                return task.strength;
            case 6:
                return course.locksOf(job);
            case 7:
                return task.hasBegun ? 1 : 0;
            case 8:
                return task.isReady ? 1 : 0;
            default:
                return task.blocker;
        }
    }

    public int ofRun(int job, int what) throws IndexOutOfBoundsException, IllegalArgumentException {
        checkJob(job);
        checkArgument(isWithin(what, 0, 7));
        Tally tally = course.tallies[job];
        switch (what) {
            case 0:
                return tally.used;
            case 1:
                return tally.over;
            case 2:
                return tally.cut;
            case 3:
                return tally.longestAnswer;
            case 4:
                return tally.lastOver;
            case 5:
                return tally.lesser;
            case 6:
                return plan.budget[job] == 0 ? NONE : plan.budget[job] - tally.spent;
            default:
                return tally.fullAt;
        }
    }

    public int ofAll(int what) throws IllegalArgumentException {
        checkArgument(isWithin(what, 0, 8));
        switch (what) {
            case 0:
                return course.now;
            case 1:
                return course.minutesOf(NONE);
            case 2:
                return course.switches();
            case 3:
                return course.overInAll();
            case 4:
                return course.cutInAll();
            case 5:
                return course.thereSet();
            case 6:
                return course.circle();
            case 7:
                return course.heldSet();
            default:
                return course.blockedInAll;
        }
    }

    public int holder(int lock) throws IndexOutOfBoundsException {
        checkLock(lock);
        return course.holders[lock];
    }

    public int queued(int k) throws IndexOutOfBoundsException {
        checkIndex(isWithin(k, 0, course.queue.size - 1));
        return course.queue.rows[k];
    }

    // ---- the whole

    public int knock() {
        knocks++;
        return knocks;
    }

    public boolean isSound() {
        return forecast.holdsTogether() && course.holdsTogether() && course.keepsPromises();
    }

    public long digest() {
        long d = DIGEST_START;
        for (int what = 0; what <= 7; what++) {
            d = mixed(d, plan(what));
        }
        d = withForecast(d);
        for (int job = 0; job < JOBS; job++) {
            if (plan.has(job)) {
                d = withJob(d, job);
            }
        }
        for (int what = 0; what <= 8; what++) {
            d = mixed(d, ofAll(what));
        }
        for (int lock = 0; lock < LOCKS; lock++) {
            d = mixed(mixed(d, ceiling(lock)), holder(lock));
        }
        for (int minute = 0; minute < course.now; minute++) {
            d = mixed(d, ran(minute));
        }
        return mixed(d, isSound() ? 1 : 0);
    }

    private long withForecast(long start) {
        long d = start;
        for (int what = 0; what <= 2; what++) {
            d = mixed(d, crowd(what));
        }
        d = mixed(mixed(d, late()), idle(0, DIGEST_IDLE_TO));
        for (int what = 0; what <= 2; what++) {
            d = mixed(d, pick(what));
        }
        d = mixed(mixed(d, cutting(false, 0)), cutting(false, 1));
        d = mixed(mixed(d, cutting(true, 0)), cutting(true, 1));
        return mixed(mixed(d, share()), last());
    }

    private long withJob(long start, int job) {
        long d = mixed(start, job);
        for (int what = 0; what <= 9; what++) {
            d = mixed(d, ofJob(job, what));
        }
        for (int lock = 0; lock < LOCKS; lock++) {
            d = mixed(mixed(d, ofSection(job, lock, false)), ofSection(job, lock, true));
        }
        if (plan.isOnce(job)) {
            d = mixed(d, end(job));
            for (int machine = 0; machine < MACHINES; machine++) {
                d = mixed(mixed(d, piece(job, machine, false)), piece(job, machine, true));
            }
        } else {
            d = mixed(d, response(job));
        }
        for (int what = 0; what <= 9; what++) {
            d = mixed(d, ofTask(job, what));
        }
        for (int what = 0; what <= 7; what++) {
            d = mixed(d, ofRun(job, what));
        }
        return d;
    }

    private static long mixed(long d, long v) {
        return d * DIGEST_FACTOR + v;
    }

    // ---- what a call has to keep to

    private boolean isTelling() {
        return course.now == 0;
    }

    private void checkJob(int job) throws IndexOutOfBoundsException {
        checkIndex(plan.has(job));
    }

    private static void checkLock(int lock) throws IndexOutOfBoundsException {
        checkIndex(isWithin(lock, 0, LOCKS - 1));
    }

    private static void checkTimes(int from, int to) throws IllegalArgumentException {
        checkArgument(isWithin(from, 0, MOST_NOW) && isWithin(to, 0, MOST_NOW));
    }

    private static void checkIndex(boolean isThere) throws IndexOutOfBoundsException {
        if (!isThere) {
            throw new IndexOutOfBoundsException("there is none with this number");
        }
    }

    private static void checkArgument(boolean isLet) throws IllegalArgumentException {
        if (!isLet) {
            throw new IllegalArgumentException("a number is not one that is let here");
        }
    }

    private static void checkState(boolean isLet) throws IllegalStateException {
        if (!isLet) {
            throw new IllegalStateException("this is not let as things stand");
        }
    }

    private static boolean isWithin(int number, int least, int most) {
        return number >= least && number <= most;
    }

    private static boolean isPeriod(int period) {
        return isWithin(period, LEAST_PERIOD, MOST_PERIOD) && ROUND % period == 0;
    }

    private static boolean isIn(int number, int set) {
        return (set >> number & 1) != 0;
    }

    private static int placeOf(int job, int lock) {
        return job * LOCKS + lock;
    }

    /** The PLAN. A row has an element for each JOB; from and to have one for each JOB and LOCK. */
    private static final class Plan {
        final int[] comes = new int[JOBS];
        final int[] length = new int[JOBS];
        final int[] due = new int[JOBS];
        final int[] period = new int[JOBS];
        final int[] rank = new int[JOBS];
        final int[] gain = new int[JOBS];
        final int[] needed = new int[JOBS];
        final int[] budget = new int[JOBS];
        final int[] refill = new int[JOBS];
        final int[] from = new int[JOBS * LOCKS];
        final int[] to = new int[JOBS * LOCKS];
        int set;
        int mode;
        int quantum = 2;
        int aging;
        int protocol;

        void copyFrom(Plan other) {
            System.arraycopy(other.comes, 0, comes, 0, JOBS);
            System.arraycopy(other.length, 0, length, 0, JOBS);
            System.arraycopy(other.due, 0, due, 0, JOBS);
            System.arraycopy(other.period, 0, period, 0, JOBS);
            System.arraycopy(other.rank, 0, rank, 0, JOBS);
            System.arraycopy(other.gain, 0, gain, 0, JOBS);
            System.arraycopy(other.needed, 0, needed, 0, JOBS);
            System.arraycopy(other.budget, 0, budget, 0, JOBS);
            System.arraycopy(other.refill, 0, refill, 0, JOBS);
            System.arraycopy(other.from, 0, from, 0, JOBS * LOCKS);
            System.arraycopy(other.to, 0, to, 0, JOBS * LOCKS);
            set = other.set;
            mode = other.mode;
            quantum = other.quantum;
            aging = other.aging;
            protocol = other.protocol;
        }

        boolean has(int job) {
            return job >= 0 && job < JOBS && (set >> job & 1) != 0;
        }

        boolean isOnce(int job) {
            return has(job) && period[job] == 0;
        }

        int firstFree() {
            for (int job = 0; job < JOBS; job++) {
                if (!isIn(job, set)) {
                    return job;
                }
            }
            return NONE;
        }

        int onceSet() {
            int onces = 0;
            for (int job = 0; job < JOBS; job++) {
                onces |= isOnce(job) ? 1 << job : 0;
            }
            return onces;
        }

        /** Clears the whole row of the JOB, as its number may have been another one's before. */
        void put(int job, int newComes, int newLength, int newRank) {
            set |= 1 << job;
            comes[job] = newComes;
            length[job] = newLength;
            rank[job] = newRank;
            due[job] = NONE;
            period[job] = 0;
            gain[job] = 0;
            needed[job] = 0;
            budget[job] = 0;
            refill[job] = 0;
            for (int lock = 0; lock < LOCKS; lock++) {
                setSection(job, lock, 0, 0);
            }
        }

        void takeOut(int job) {
            set &= ~(1 << job);
            for (int other = 0; other < JOBS; other++) {
                needed[other] &= ~(1 << job);
            }
        }

        int needsInAll(int job) {
            int all = needed[job];
            for (int round = 0; round < JOBS; round++) {
                for (int other = 0; other < JOBS; other++) {
                    all |= isIn(other, all) ? needed[other] : 0;
                }
            }
            return all;
        }

        void setSection(int job, int lock, int newFrom, int newTo) {
            boolean isSome = newFrom < newTo;
            from[placeOf(job, lock)] = isSome ? newFrom : NONE;
            to[placeOf(job, lock)] = isSome ? newTo : NONE;
        }

        boolean hasSection(int job, int lock) {
            return to[placeOf(job, lock)] != NONE;
        }

        int sectionsOf(int job) {
            int count = 0;
            for (int lock = 0; lock < LOCKS; lock++) {
                count += hasSection(job, lock) ? 1 : 0;
            }
            return count;
        }

        int ceilingOf(int lock) {
            int greatest = NONE;
            for (int job = 0; job < JOBS; job++) {
                if (has(job) && hasSection(job, lock)) {
                    greatest = Math.max(greatest, rank[job]);
                }
            }
            return greatest;
        }

        int latestUpTo(int time) {
            int latest = NONE;
            for (int job = 0; job < JOBS; job++) {
                if (has(job) && comes[job] <= time) {
                    latest = Math.max(latest, comes[job]);
                }
            }
            return latest;
        }

        int earliestFrom(int time) {
            int earliest = NONE;
            for (int job = 0; job < JOBS; job++) {
                if (has(job) && comes[job] >= time && (earliest == NONE || comes[job] < earliest)) {
                    earliest = comes[job];
                }
            }
            return earliest;
        }

        /** How many TASKS of the JOB come ahead of the time. */
        int comingsAhead(int job, int time) {
            if (time <= comes[job]) {
                return 0;
            }
            return period[job] <= 0 ? 1 : (time - 1 - comes[job]) / period[job] + 1;
        }

        boolean comesAt(int job, int time) {
            return comingsAhead(job, time + 1) > comingsAhead(job, time);
        }

        int workAhead(int time) {
            int sum = 0;
            for (int job = 0; job < JOBS; job++) {
                sum += has(job) ? comingsAhead(job, time) * length[job] : 0;
            }
            return sum;
        }

        int loadOf(int onces, int start, int stop) {
            int sum = 0;
            for (int job = 0; job < JOBS; job++) {
                sum += isIn(job, onces) && comes[job] >= start && due[job] <= stop ? length[job] : 0;
            }
            return sum;
        }

        int gainsOf(int onces) {
            int sum = 0;
            for (int job = 0; job < JOBS; job++) {
                sum += isIn(job, onces) ? gain[job] : 0;
            }
            return sum;
        }

        int shareOfAll() {
            int sum = 0;
            for (int job = 0; job < JOBS; job++) {
                sum += has(job) && period[job] > 0 ? length[job] * ROUND / period[job] : 0;
            }
            return sum;
        }

        int responseOf(int job) {
            for (int time = length[job]; time <= period[job]; time++) {
                if (time == length[job] + ahead(job, time)) {
                    return time;
                }
            }
            return NONE;
        }

        /** The most that other REPEATING jobs of its RANK or above can do ahead of the JOB up to the time. */
        private int ahead(int job, int time) {
            int sum = 0;
            for (int other = 0; other < JOBS; other++) {
                if (other != job && has(other) && period[other] > 0 && rank[other] >= rank[job]) {
                    sum += length[other] * ((time + period[other] - 1) / period[other]);
                }
            }
            return sum;
        }

        boolean hasSections() {
            for (int lock = 0; lock < LOCKS; lock++) {
                if (ceilingOf(lock) != NONE) {
                    return true;
                }
            }
            return false;
        }

        boolean hasBudgets() {
            for (int job = 0; job < JOBS; job++) {
                if (has(job) && budget[job] > 0) {
                    return true;
                }
            }
            return false;
        }
    }

    /** The PLANS ahead of the last STEPS, in rows that go round, so that the oldest is written over. */
    private static final class Steps {
        private final Plan[] plans = new Plan[STEPS];
        private int next;
        int count;

        Steps() {
            for (int k = 0; k < STEPS; k++) {
                plans[k] = new Plan();
            }
        }

        void keep(Plan plan) {
            plans[next].copyFrom(plan);
            next = (next + 1) % STEPS;
            count = Math.min(count + 1, STEPS);
        }

        void takeBack(Plan plan) {
            next = (next + STEPS - 1) % STEPS;
            count--;
            plan.copyFrom(plans[next]);
        }
    }

    /** The FULLEST stretch of a set of ONCE jobs, if its CROWD is above 0; nobody asks for one that is not too full. */
    private static final class Stretch {
        int crowd;
        int from = NONE;
        int to = NONE;

        void findIn(Plan plan, int onces) {
            crowd = 0;
            from = NONE;
            to = NONE;
            for (int first = 0; first < JOBS; first++) {
                for (int second = 0; second < JOBS; second++) {
                    int start = plan.comes[first];
                    int stop = plan.due[second];
                    if (isIn(first, onces) && isIn(second, onces) && start < stop) {
                        offer(plan.loadOf(onces, start, stop) - (stop - start), start, stop);
                    }
                }
            }
        }

        private void offer(int offered, int start, int stop) {
            boolean isEarlier = start < from || start == from && stop < to;
            if (offered > crowd || offered == crowd && isEarlier) {
                crowd = offered;
                from = start;
                to = stop;
            }
        }

        boolean isTooFull() {
            return crowd > 0;
        }
    }

    /** What can be told ahead of the ONCE jobs. It is worked out whenever these change, for all questions. */
    private static final class Forecast {
        private final Plan plan;
        private final Stretch tried = new Stretch();
        private final int[] left = new int[JOBS];
        private final boolean[] isBusy = new boolean[EAGER_MINUTES];
        final Stretch fullest = new Stretch();
        final Parts parts = new Parts();
        final int[] ends = new int[JOBS];
        int late;
        int picked;
        int keptByRule;
        int kept;

        Forecast(Plan plan) {
            this.plan = plan;
        }

        void workOut() {
            int onces = plan.onceSet();
            fullest.findIn(plan, onces);
            runEager(onces);
            late = lateOf(onces);
            picked = pickedOf(onces);
            keptByRule = keptByRuleOf(onces);
            kept = Integer.bitCount(onces) <= MOST_FOR_BEST ? keptAtBestOf(onces) : keptByRule;
            parts.layOut(plan, onces);
        }

        boolean isIdle(int minute) {
            return minute >= EAGER_MINUTES || minute < 0 || !isBusy[minute];
        }

        private void runEager(int onces) {
            for (int job = 0; job < JOBS; job++) {
                left[job] = isIn(job, onces) ? plan.length[job] : 0;
                ends[job] = NONE;
            }
            for (int minute = 0; minute < EAGER_MINUTES; minute++) {
                int job = mostUrgent(minute);
                isBusy[minute] = job != NONE;
                if (job != NONE) {
                    left[job]--;
                    ends[job] = minute + 1;
                }
            }
        }

        private int mostUrgent(int minute) {
            int first = NONE;
            for (int job = 0; job < JOBS; job++) {
                if (left[job] > 0 && plan.comes[job] <= minute
                        && (first == NONE || plan.due[job] < plan.due[first])) {
                    first = job;
                }
            }
            return first;
        }

        private int lateOf(int onces) {
            int set = 0;
            for (int job = 0; job < JOBS; job++) {
                set |= isIn(job, onces) && ends[job] > plan.due[job] ? 1 << job : 0;
            }
            return set;
        }

        private boolean isFeasible(int onces) {
            tried.findIn(plan, onces);
            return !tried.isTooFull();
        }

        private int pickedOf(int onces) {
            int set = 0;
            for (int gain = MOST_GAIN; gain >= 0; gain--) {
                for (int job = 0; job < JOBS; job++) {
                    if (isIn(job, onces) && plan.length[job] == 1 && plan.gain[job] == gain
                            && isFeasible(set | 1 << job)) {
                        set |= 1 << job;
                    }
                }
            }
            return set;
        }

        private int keptByRuleOf(int onces) {
            int set = onces;
            for (int k = 0; k < JOBS && !isFeasible(set); k++) {
                int worst = worstWithin(set, tried.from, tried.to);
                set &= worst == NONE ? set : ~(1 << worst);
            }
            return set;
        }

        private int worstWithin(int onces, int start, int stop) {
            int worst = NONE;
            for (int job = 0; job < JOBS; job++) {
                if (isIn(job, onces) && plan.comes[job] >= start && plan.due[job] <= stop
                        && (worst == NONE || isWorse(job, worst))) {
                    worst = job;
                }
            }
            return worst;
        }

        private boolean isWorse(int job, int other) {
            if (plan.gain[job] != plan.gain[other]) {
                return plan.gain[job] < plan.gain[other];
            }
            return plan.length[job] > plan.length[other];
        }

        /** The sets are tried from the smallest number on, so that a later one has to have more GAIN. */
        private int keptAtBestOf(int onces) {
            int best = 0;
            int set = 0;
            int sets = 1 << Math.min(Integer.bitCount(onces), MOST_FOR_BEST);
            for (int k = 0; k < sets; k++) {
                if (plan.gainsOf(set) > plan.gainsOf(best) && isFeasible(set)) {
                    best = set;
                }
                set = (set - onces) & onces;
            }
            return best;
        }

        boolean holdsTogether() {
            return fullest.isTooFull() == (late != 0)
                    && isFeasible(picked) && isFeasible(kept) && isFeasible(keptByRule)
                    && plan.gainsOf(kept) >= plan.gainsOf(keptByRule)
                    && parts.holdTogether(plan);
        }
    }

    /** PARTS: where the pieces of the ONCE jobs lie on the two machines. */
    private static final class Parts {
        final int[][] begins = new int[MACHINES][JOBS];
        final int[][] ends = new int[MACHINES][JOBS];
        int last;

        /** Both machines count as one line of twice LAST, which is cut in the middle. */
        void layOut(Plan plan, int onces) {
            last = lastOf(plan, onces);
            int place = 0;
            for (int job = 0; job < JOBS; job++) {
                int stop = place + (isIn(job, onces) ? plan.length[job] : 0);
                put(0, job, place, Math.min(stop, last));
                put(1, job, Math.max(place, last) - last, stop - last);
                place = stop;
            }
        }

        private static int lastOf(Plan plan, int onces) {
            int longest = 0;
            int sum = 0;
            for (int job = 0; job < JOBS; job++) {
                int length = isIn(job, onces) ? plan.length[job] : 0;
                longest = Math.max(longest, length);
                sum += length;
            }
            return Math.max(longest, (sum + 1) / 2);
        }

        private void put(int machine, int job, int begin, int end) {
            begins[machine][job] = begin < end ? begin : NONE;
            ends[machine][job] = begin < end ? end : NONE;
        }

        boolean holdTogether(Plan plan) {
            for (int job = 0; job < JOBS; job++) {
                if (plan.isOnce(job) && (isDoubled(job) || lengthOn(0, job) + lengthOn(1, job) != plan.length[job])) {
                    return false;
                }
            }
            return true;
        }

        private boolean isDoubled(int job) {
            return begins[0][job] < ends[1][job] && begins[1][job] < ends[0][job];
        }

        private int lengthOn(int machine, int job) {
            return ends[machine][job] - begins[machine][job];
        }
    }

    /** The TASK of a JOB; isReady, blocker and strength are as they were when last looked at. */
    private static final class Task {
        boolean isThere;
        int left;
        int came;
        int due;
        int waited;
        int lessers;
        int turn;
        boolean hasBegun;
        boolean isReady;
        int blocker = NONE;
        int strength;

        void come(int now, int length, int dueAt) {
            isThere = true;
            left = length;
            came = now;
            due = dueAt;
            waited = 0;
            lessers = 0;
            turn = 0;
            hasBegun = false;
        }

        void clear() {
            isThere = false;
            isReady = false;
            blocker = NONE;
        }

        boolean canRun() {
            return isThere && isReady && blocker == NONE;
        }
    }

    /** What is counted of a JOB while it is run, and how much of its BUDGET is spent. */
    private static final class Tally {
        int used;
        int over;
        int cut;
        int longestAnswer = NONE;
        int lastOver = NONE;
        int lesser;
        int spent;
        int fullAt = NONE;

        void clear() {
            used = 0;
            over = 0;
            cut = 0;
            longestAnswer = NONE;
            lastOver = NONE;
            lesser = 0;
            spent = 0;
            fullAt = NONE;
        }

        void spendMinute(int now, int refill) {
            if (spent == 0) {
                fullAt = now + refill;
            }
            spent++;
        }

        void refillAt(int now) {
            if (fullAt == now) {
                spent = 0;
                fullAt = NONE;
            }
        }
    }

    /** The QUEUE of MODE 3. */
    private static final class Queue {
        final int[] rows = new int[JOBS];
        int size;

        void append(int job) {
            if (size < JOBS) {
                rows[size] = job;
                size++;
            }
        }

        void remove(int job) {
            int kept = 0;
            for (int k = 0; k < size; k++) {
                if (rows[k] != job) {
                    rows[kept] = rows[k];
                    kept++;
                }
            }
            size = kept;
        }
    }

    /** The run of the PLAN, up to NOW. */
    private static final class Course {
        private final Plan plan;
        private final int[] ceilings = new int[LOCKS];
        final Task[] tasks = new Task[JOBS];
        final Tally[] tallies = new Tally[JOBS];
        final int[] holders = new int[LOCKS];
        final Queue queue = new Queue();
        final int[] ran = new int[MOST_NOW];
        int now;
        int blockedInAll;

        Course(Plan plan) {
            this.plan = plan;
            for (int job = 0; job < JOBS; job++) {
                tasks[job] = new Task();
                tallies[job] = new Tally();
            }
            Arrays.fill(holders, NONE);
        }

        void clear() {
            for (int job = 0; job < JOBS; job++) {
                tasks[job].clear();
                tallies[job].clear();
            }
            Arrays.fill(holders, NONE);
            queue.size = 0;
            now = 0;
            blockedInAll = 0;
        }

        int runFor(int minutes) {
            int empty = 0;
            for (int k = 0; k < minutes && now < MOST_NOW; k++) {
                int job = runMinute();
                ran[now] = job;
                now++;
                empty += job == NONE ? 1 : 0;
            }
            lookAround();
            return empty;
        }

        private int runMinute() {
            cutTheDue();
            bringTheComing();
            for (int job = 0; job < JOBS; job++) {
                tallies[job].refillAt(now);
            }
            lookAround();
            int job = plan.mode == BY_TURN ? firstInQueue() : firstByMode();
            noteWaiting(job);
            if (job != NONE) {
                workOn(job);
            }
            return job;
        }

        private void cutTheDue() {
            for (int job = 0; job < JOBS; job++) {
                if (tasks[job].isThere && tasks[job].due == now) {
                    tallies[job].cut++;
                    sendAway(job);
                }
            }
        }

        private void bringTheComing() {
            for (int job = 0; job < JOBS; job++) {
                if (plan.has(job) && plan.comesAt(job, now)) {
                    int due = plan.isOnce(job) ? plan.due[job] : now + plan.period[job];
                    tasks[job].come(now, plan.length[job], due);
                    if (plan.mode == BY_TURN) {
                        queue.append(job);
                    }
                }
            }
        }

        private void sendAway(int job) {
            tasks[job].clear();
            queue.remove(job);
            for (int lock = 0; lock < LOCKS; lock++) {
                if (holders[lock] == job) {
                    holders[lock] = NONE;
                }
            }
        }

        /** Who is READY, then by whom BLOCKED, then how strong: each rests on that ahead of it, for all JOBS. */
        private void lookAround() {
            for (int lock = 0; lock < LOCKS; lock++) {
                ceilings[lock] = plan.ceilingOf(lock);
            }
            for (int job = 0; job < JOBS; job++) {
                tasks[job].isReady = isReady(job);
                tasks[job].blocker = tasks[job].isReady ? blockerOf(job) : NONE;
                tasks[job].strength = ownStrength(job);
            }
            if (plan.protocol == LENDING) {
                lendStrength();
            }
        }

        private boolean isReady(int job) {
            if (!tasks[job].isThere) {
                return false;
            }
            for (int other = 0; other < JOBS; other++) {
                if (isIn(other, plan.needed[job]) && tallies[other].over == 0) {
                    return false;
                }
            }
            return plan.budget[job] == 0 || tallies[job].spent < plan.budget[job];
        }

        private boolean usesCeilings() {
            return plan.mode == BY_RANK && plan.protocol == CEILINGS;
        }

        private int blockerOf(int job) {
            if (usesCeilings()) {
                return tasks[job].hasBegun ? NONE : blockerByCeiling(job);
            }
            for (int lock = 0; lock < LOCKS; lock++) {
                if (isHeldByAnother(job, lock) && wants(job, lock)) {
                    return holders[lock];
                }
            }
            return NONE;
        }

        private int blockerByCeiling(int job) {
            int blocker = NONE;
            int greatest = NONE;
            for (int lock = 0; lock < LOCKS; lock++) {
                if (isHeldByAnother(job, lock) && ceilings[lock] >= plan.rank[job] && ceilings[lock] > greatest) {
                    greatest = ceilings[lock];
                    blocker = holders[lock];
                }
            }
            return blocker;
        }

        private boolean isHeldByAnother(int job, int lock) {
            return holders[lock] != NONE && holders[lock] != job;
        }

        private int minutesDone(int job) {
            return plan.length[job] - tasks[job].left;
        }

        private boolean wants(int job, int lock) {
            int next = minutesDone(job);
            return plan.from[placeOf(job, lock)] <= next && next < plan.to[placeOf(job, lock)];
        }

        private int ownStrength(int job) {
            boolean isAging = plan.protocol != CEILINGS && plan.aging > 0;
            return plan.rank[job] + (isAging ? tasks[job].waited / plan.aging : 0);
        }

        /** A lent STRENGTH goes on to the BLOCKER's BLOCKER; with twelve JOBS it has come round after twelve rounds. */
        private void lendStrength() {
            for (int round = 0; round < JOBS; round++) {
                for (int job = 0; job < JOBS; job++) {
                    int blocker = tasks[job].blocker;
                    if (blocker != NONE) {
                        tasks[blocker].strength = Math.max(tasks[blocker].strength, tasks[job].strength);
                    }
                }
            }
        }

        private int firstInQueue() {
            for (int k = 0; k < queue.size; k++) {
                int job = queue.rows[k];
                if (tasks[job].canRun()) {
                    return job;
                }
            }
            return NONE;
        }

        private int firstByMode() {
            int first = NONE;
            for (int job = 0; job < JOBS; job++) {
                if (tasks[job].canRun() && (first == NONE || isAhead(job, first))) {
                    first = job;
                }
            }
            return first;
        }

        private boolean isAhead(int job, int other) {
            if (plan.mode == BY_SHARE) {
                return tallies[job].used * (plan.rank[other] + 1) < tallies[other].used * (plan.rank[job] + 1);
            }
            if (plan.mode == BY_RANK && tasks[job].strength != tasks[other].strength) {
                return tasks[job].strength > tasks[other].strength;
            }
            return tasks[job].due < tasks[other].due;
        }

        private void noteWaiting(int running) {
            for (int job = 0; job < JOBS; job++) {
                Task task = tasks[job];
                if (task.isReady) {
                    blockedInAll += task.blocker == NONE ? 0 : 1;
                    task.waited = job == running ? 0 : task.waited + 1;
                    if (running != NONE && plan.rank[running] < plan.rank[job]) {
                        task.lessers |= 1 << running;
                        tallies[job].lesser = Math.max(tallies[job].lesser, Integer.bitCount(task.lessers));
                    }
                }
            }
        }

        private void workOn(int job) {
            Task task = tasks[job];
            takeLocks(job);
            task.left--;
            task.turn++;
            tallies[job].used++;
            task.hasBegun = true;
            if (plan.budget[job] > 0) {
                tallies[job].spendMinute(now, plan.refill[job]);
                task.hasBegun = tallies[job].spent < plan.budget[job];
            }
            giveBackLocks(job);
            if (task.left == 0) {
                finish(job);
            } else if (plan.mode == BY_TURN && task.turn >= plan.quantum) {
                task.turn = 0;
                queue.remove(job);
                queue.append(job);
            }
        }

        private void takeLocks(int job) {
            for (int lock = 0; lock < LOCKS; lock++) {
                if (wants(job, lock)) {
                    holders[lock] = job;
                }
            }
        }

        private void giveBackLocks(int job) {
            for (int lock = 0; lock < LOCKS; lock++) {
                if (holders[lock] == job && plan.to[placeOf(job, lock)] == minutesDone(job)) {
                    holders[lock] = NONE;
                }
            }
        }

        private void finish(int job) {
            Tally tally = tallies[job];
            tally.over++;
            tally.lastOver = now + 1;
            tally.longestAnswer = Math.max(tally.longestAnswer, now + 1 - tasks[job].came);
            sendAway(job);
        }

        int locksOf(int job) {
            int set = 0;
            for (int lock = 0; lock < LOCKS; lock++) {
                set |= holders[lock] == job ? 1 << lock : 0;
            }
            return set;
        }

        int heldSet() {
            int set = 0;
            for (int lock = 0; lock < LOCKS; lock++) {
                set |= holders[lock] != NONE ? 1 << lock : 0;
            }
            return set;
        }

        int thereSet() {
            int set = 0;
            for (int job = 0; job < JOBS; job++) {
                set |= tasks[job].isThere ? 1 << job : 0;
            }
            return set;
        }

        int minutesOf(int job) {
            int count = 0;
            for (int minute = 0; minute < now && minute < MOST_NOW; minute++) {
                count += ran[minute] == job ? 1 : 0;
            }
            return count;
        }

        int switches() {
            int count = 0;
            int before = NONE;
            for (int minute = 0; minute < now && minute < MOST_NOW; minute++) {
                count += ran[minute] != NONE && ran[minute] != before ? 1 : 0;
                before = ran[minute];
            }
            return count;
        }

        int overInAll() {
            int sum = 0;
            for (int job = 0; job < JOBS; job++) {
                sum += tallies[job].over;
            }
            return sum;
        }

        int cutInAll() {
            int sum = 0;
            for (int job = 0; job < JOBS; job++) {
                sum += tallies[job].cut;
            }
            return sum;
        }

        int circle() {
            int set = 0;
            for (int job = 0; job < JOBS; job++) {
                set |= comesToItself(job) ? 1 << job : 0;
            }
            return set;
        }

        private boolean comesToItself(int job) {
            int at = tasks[job].blocker;
            for (int k = 0; k < JOBS && at != NONE && at != job; k++) {
                at = tasks[at].blocker;
            }
            return at == job;
        }

        boolean holdsTogether() {
            for (int job = 0; job < JOBS; job++) {
                if (plan.has(job) && minutesOf(job) != tallies[job].used) {
                    return false;
                }
            }
            for (int lock = 0; lock < LOCKS; lock++) {
                if (holders[lock] != NONE && !isHeldRightly(holders[lock], lock)) {
                    return false;
                }
            }
            return true;
        }

        private boolean isHeldRightly(int job, int lock) {
            return tasks[job].isThere && minutesDone(job) < plan.to[placeOf(job, lock)];
        }

        /** What the known theorems on these ways to run say; each of them asks for a PLAN of its own kind. */
        boolean keepsPromises() {
            boolean isPlain = plan.onceSet() == 0 && !plan.hasSections() && !plan.hasBudgets();
            boolean isCutFree = isPlain && plan.mode == BY_DEADLINE && plan.shareOfAll() <= ROUND;
            boolean isInTime = isPlain && plan.mode == BY_RANK && plan.aging == 0;
            return (!usesCeilings() || isBlockedOnceAtMost())
                    && (!isCutFree || cutInAll() == 0)
                    && (!isInTime || answersInTime());
        }

        private boolean isBlockedOnceAtMost() {
            for (int job = 0; job < JOBS; job++) {
                if (plan.has(job) && plan.budget[job] == 0 && tallies[job].lesser > 1) {
                    return false;
                }
            }
            return true;
        }

        private boolean answersInTime() {
            for (int job = 0; job < JOBS; job++) {
                int response = plan.has(job) ? plan.responseOf(job) : NONE;
                if (response != NONE && tallies[job].longestAnswer > response) {
                    return false;
                }
            }
            return true;
        }
    }
}
