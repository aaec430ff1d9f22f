import java.util.ArrayList;
import java.util.Comparator;
import java.util.HashMap;
import java.util.List;
import java.util.Map;
import java.util.TreeSet;

/** The run of the Model: it keeps what was done in each minute, and tells all else from that. */
final class ModelRun {
    static final class Task {
        int number;
        Model.Job job;
        int came;
        int due;
        int overAt = -1;
        int cutAt = -1;
        int queuedAfter;
        final List<Integer> ran = new ArrayList<>();
        final List<Integer> ready = new ArrayList<>();

        boolean isThere() {
            return overAt < 0 && cutAt < 0;
        }

        boolean holds(int lock) {
            int[] section = job.sections[lock];
            return isThere() && section != null && section[0] < ran.size() && ran.size() < section[1];
        }

        boolean wants(int lock) {
            int[] section = job.sections[lock];
            return section != null && section[0] <= ran.size() && ran.size() < section[1];
        }

        int waited() {
            int last = ran.isEmpty() ? -1 : ran.get(ran.size() - 1);
            return (int) ready.stream().filter(minute -> minute > last).count();
        }
    }

    private final Model.Plan plan;
    private final List<Task> tasks = new ArrayList<>();
    private final List<Task> log = new ArrayList<>();
    final List<Task> queue = new ArrayList<>();
    int now;
    private int blocked;
    /** The BLOCKERS since something changed last (null: none), as it takes long to tell them. */
    private final Map<Task, Task> blockers = new HashMap<>();
    /** The time of the last c.: BUDGETS that are to be FULL by then are so. */
    private int refilledAt = -1;

    ModelRun(Model.Plan plan) {
        this.plan = plan;
    }

    private List<Task> there() {
        List<Task> found = new ArrayList<>(tasks);
        found.removeIf(task -> !task.isThere());
        found.sort(Comparator.comparingInt(task -> task.number));
        return found;
    }

    private Task task(int number) {
        return there().stream().filter(task -> task.number == number).findFirst().orElse(null);
    }

    /** What is spent of the BUDGET of a JOB, and when it is to be FULL again, at a time: told from its minutes. */
    private int[] budget(int number, int time) {
        int spent = 0;
        int fullAt = -1;
        for (int minute = 0; minute <= time; minute++) {
            if (minute == fullAt && minute <= refilledAt) {
                spent = 0;
                fullAt = -1;
            }
            if (minute < log.size() && log.get(minute) != null && log.get(minute).number == number) {
                fullAt = spent == 0 ? minute + plan.jobs.get(number).refill : fullAt;
                spent++;
            }
        }
        return new int[] {plan.jobs.get(number).budget - spent, fullAt};
    }

    private boolean isReady(Task task) {
        for (int other : task.job.needs) {
            if (tasks.stream().noneMatch(t -> t.number == other && t.overAt >= 0)) {
                return false;
            }
        }
        return task.job.budget == 0 || budget(task.number, now)[0] > 0;
    }

    private boolean hasBegun(Task task) {
        if (task.ran.isEmpty()) {
            return false;
        }
        return task.job.budget == 0 || budget(task.number, task.ran.get(task.ran.size() - 1))[0] > 0;
    }

    private Task holding(int lock) {
        return there().stream().filter(task -> task.holds(lock)).findFirst().orElse(null);
    }

    private Task blocker(Task task) {
        if (!blockers.containsKey(task)) {
            blockers.put(task, toldBlocker(task));
        }
        return blockers.get(task);
    }

    private Task toldBlocker(Task task) {
        if (!isReady(task)) {
            return null;
        }
        boolean isByCeiling = plan.mode == 1 && plan.protocol == 2;
        Task found = null;
        int ceiling = -1;
        for (int lock = 3; lock >= 0; lock--) {
            Task holder = holding(lock);
            if (holder == null || holder == task) {
                continue;
            }
            if (isByCeiling && !hasBegun(task) && plan.ceiling(lock) >= Math.max(task.job.rank, ceiling)) {
                ceiling = plan.ceiling(lock);
                found = holder;
            }
            if (!isByCeiling && task.wants(lock)) {
                found = holder;
            }
        }
        return found;
    }

    /** All whose chain of BLOCKERS comes to the task lend it their STRENGTH. */
    private int strength(Task task) {
        int most = own(task);
        if (plan.protocol == 1) {
            for (Task other : there()) {
                if (chain(other).contains(task.number)) {
                    most = Math.max(most, own(other));
                }
            }
        }
        return most;
    }

    private int own(Task task) {
        return task.job.rank + (plan.protocol < 2 && plan.aging > 0 ? task.waited() / plan.aging : 0);
    }

    private TreeSet<Integer> chain(Task task) {
        TreeSet<Integer> numbers = new TreeSet<>();
        Task at = blocker(task);
        while (at != null && numbers.add(at.number)) {
            at = blocker(at);
        }
        return numbers;
    }

    private int used(int number) {
        return (int) log.stream().filter(task -> task != null && task.number == number).count();
    }

    private Task chosen(List<Task> able) {
        Comparator<Task> byDue = Comparator.comparingInt((Task t) -> t.due).thenComparingInt(t -> t.number);
        if (plan.mode == 3) {
            return queue.stream().filter(able::contains).findFirst().orElse(null);
        }
        if (plan.mode == 0) {
            return able.stream().min(byDue).orElse(null);
        }
        if (plan.mode == 1) {
            return able.stream().min(Comparator.comparingInt((Task t) -> -strength(t)).thenComparing(byDue)).orElse(null);
        }
        // 2520 is divided by each RANK + 1, so nothing is rounded.
        return able.stream().min(Comparator.comparingInt((Task t) -> used(t.number) * (2520 / (t.job.rank + 1)))
                .thenComparingInt(t -> t.number)).orElse(null);
    }

    private void come(int number) {
        Task task = new Task();
        task.number = number;
        task.job = plan.jobs.get(number);
        task.came = now;
        task.due = task.job.isOnce() ? task.job.due : now + task.job.period;
        tasks.add(task);
        if (plan.mode == 3) {
            queue.add(task);
        }
    }

    Task minute() {
        for (Task task : there()) {
            if (task.due == now) {
                task.cutAt = now;
                queue.remove(task);
            }
        }
        for (int number : plan.jobs.keySet()) {
            if (plan.jobs.get(number).comesAt(now)) {
                come(number);
            }
        }
        refilledAt = now;
        blockers.clear();
        List<Task> ready = there();
        ready.removeIf(task -> !isReady(task));
        List<Task> able = new ArrayList<>(ready);
        able.removeIf(task -> blocker(task) != null);
        blocked += ready.size() - able.size();
        Task task = chosen(able);
        ready.forEach(t -> t.ready.add(now));
        log.add(task);
        if (task != null) {
            task.ran.add(now);
            boolean isOver = task.ran.size() == task.job.length;
            task.overAt = isOver ? now + 1 : -1;
            boolean isTurnOver = task.ran.size() - task.queuedAfter == plan.quantum;
            if (plan.mode == 3 && (isOver || isTurnOver)) {
                queue.remove(task);
                task.queuedAfter = task.ran.size();
                if (!isOver) {
                    queue.add(task);
                }
            }
        }
        now++;
        blockers.clear();
        return task;
    }

    int jobAt(int minute) {
        return log.get(minute) == null ? -1 : log.get(minute).number;
    }

    int holder(int lock) {
        return holding(lock) == null ? -1 : holding(lock).number;
    }

    int ofTask(int number, int what) {
        Task task = task(number);
        if (task == null) {
            return what == 0 ? 0 : -1;
        }
        switch (what) {
            case 0:
                return 1;
            case 1:
                return task.job.length - task.ran.size();
            case 2:
                return task.came;
            case 3:
                return task.due;
            case 4:
                return task.waited();
            case 5:
                return strength(task);
            case 6:
                return Model.setOf(lock -> lock < 4 && task.holds(lock));
            case 7:
                return hasBegun(task) ? 1 : 0;
            case 8:
                return isReady(task) ? 1 : 0;
            default:
                return blocker(task) == null ? -1 : blocker(task).number;
        }
    }

    private int lesser(Task task) {
        TreeSet<Integer> numbers = new TreeSet<>();
        for (int minute : task.ready) {
            if (log.get(minute) != null && log.get(minute).job.rank < task.job.rank) {
                numbers.add(log.get(minute).number);
            }
        }
        return numbers.size();
    }

    int ofRun(int number, int what) {
        List<Task> own = new ArrayList<>(tasks);
        own.removeIf(task -> task.number != number);
        boolean hasBudget = plan.jobs.get(number).budget > 0;
        switch (what) {
            case 0:
                return used(number);
            case 1:
                return (int) own.stream().filter(t -> t.overAt >= 0).count();
            case 2:
                return (int) own.stream().filter(t -> t.cutAt >= 0).count();
            case 3:
                return own.stream().filter(t -> t.overAt >= 0).mapToInt(t -> t.overAt - t.came).max().orElse(-1);
            case 4:
                return own.stream().mapToInt(t -> t.overAt).max().orElse(-1);
            case 5:
                return own.stream().mapToInt(this::lesser).max().orElse(0);
            case 6:
                return hasBudget ? budget(number, now)[0] : -1;
            default:
                return hasBudget ? budget(number, now)[1] : -1;
        }
    }

    int ofAll(int what) {
        switch (what) {
            case 0:
                return now;
            case 1:
                return (int) log.stream().filter(task -> task == null).count();
            case 2:
                int switches = 0;
                for (int minute = 0; minute < now; minute++) {
                    switches += jobAt(minute) >= 0 && (minute == 0 || jobAt(minute) != jobAt(minute - 1)) ? 1 : 0;
                }
                return switches;
            case 3:
                return (int) tasks.stream().filter(t -> t.overAt >= 0).count();
            case 4:
                return (int) tasks.stream().filter(t -> t.cutAt >= 0).count();
            case 5:
                return Model.setOf(number -> task(number) != null);
            case 6:
                return Model.setOf(number -> task(number) != null && chain(task(number)).contains(number));
            case 7:
                return Model.setOf(lock -> lock < 4 && holding(lock) != null);
            default:
                return blocked;
        }
    }
}
