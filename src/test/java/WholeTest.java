import java.lang.reflect.Field;
import java.math.BigInteger;

/** Promises 38 to 40: the whole. */
public final class WholeTest {
    public static void main(String[] args) throws ReflectiveOperationException {
        promise38();
        promise39Holds();
        promise39ToldAhead();
        promise39Run();
        promise39Theorems();
        promise39OfEachJob();
        promise40();
        promise40Told();
        promise40WrapsAround();
        promise40Unsound();
        Check.done("WholeTest");
    }

    private static void promise38() {
        Deadlinekeeper x = new Deadlinekeeper();
        Check.is("38 the first", x.knock(), 1);
        x.once(0, 1, 1, 0, 0);
        Check.is("38 the second", x.knock(), 2);
        x.undo();
        x.run(3);
        x.again();
        Check.is("38 the third", x.knock(), 3);
        Check.is("38 another object", new Deadlinekeeper().knock(), 1);
        Check.is("38 no STEP", x.plan(7), 0);
    }

    private static Deadlinekeeper three() {
        Deadlinekeeper x = new Deadlinekeeper();
        x.once(0, 4, 9, 2, 30);
        x.once(0, 4, 9, 5, 20);
        x.once(2, 1, 2, 1, 10);
        x.section(0, 1, 0, 4);
        return x;
    }

    private static Deadlinekeeper repeating(int mode, int aging) {
        Deadlinekeeper x = new Deadlinekeeper();
        x.every(0, 2, 4, 5);
        x.every(0, 2, 5, 1);
        x.rules(mode, 2, aging, 0);
        return x;
    }

    private static void promise39Holds() {
        Check.is("39 new", new Deadlinekeeper().isSound(), true);
        Deadlinekeeper x = three();
        for (int k = 0; k < 12; k++) {
            Check.is("39 while it is run", x.isSound(), true);
            x.run(1);
        }
        for (int mode = 0; mode < 4; mode++) {
            Deadlinekeeper y = repeating(mode, mode);
            y.run(60);
            Check.is("39 REPEATING", y.isSound(), true);
        }
    }

    private static Object inside(Object object, String name) throws ReflectiveOperationException {
        Field field = object.getClass().getDeclaredField(name);
        field.setAccessible(true);
        return field.get(object);
    }

    private static void put(Object object, String name, int value) throws ReflectiveOperationException {
        Field field = object.getClass().getDeclaredField(name);
        field.setAccessible(true);
        field.setInt(object, value);
    }

    private static Object tally(Deadlinekeeper x, int job) throws ReflectiveOperationException {
        return ((Object[]) inside(inside(x, "course"), "tallies"))[job];
    }

    /** No call can make an object unsound, so it is broken from outside: each part of the promise has to show. */
    private static void promise39ToldAhead() throws ReflectiveOperationException {
        String[] names = {"late", "picked", "kept", "kept", "keptByRule"};
        int[] values = {0, 48, 63, 0, 63};
        for (int k = 0; k < names.length; k++) {
            Deadlinekeeper x = three();
            x.once(30, 1, 1, 0, 1);
            x.once(30, 1, 1, 0, 1);
            x.once(30, 1, 1, 0, 1);
            Check.is("39 sound", x.isSound(), true);
            put(inside(x, "forecast"), names[k], values[k]);
            Check.is("39 wrong " + names[k], x.isSound(), false);
        }
        int[][] pieces = {{0, 0, 5}, {0, 0, 3}, {1, 0, 6}, {0, 1, 4}};
        for (int[] p : pieces) {
            Deadlinekeeper x = three();
            Object parts = inside(inside(x, "forecast"), "parts");
            ((int[][]) inside(parts, "ends"))[p[0]][p[1]] = p[2];
            Check.is("39 wrong piece", x.isSound(), false);
        }
        Deadlinekeeper x = three();
        Object parts = inside(inside(x, "forecast"), "parts");
        int[][] begins = (int[][]) inside(parts, "begins");
        int[][] ends = (int[][]) inside(parts, "ends");
        begins[0][0] = 0;
        ends[0][0] = 2;
        begins[1][0] = 1;
        ends[1][0] = 3;
        Check.is("39 a minute in both pieces", x.isSound(), false);
        begins[1][0] = 2;
        ends[1][0] = 4;
        Check.is("39 no minute in both pieces", x.isSound(), true);
    }

    private static void promise39Run() throws ReflectiveOperationException {
        Deadlinekeeper x = three();
        x.run(3);
        put(tally(x, 0), "used", 1);
        Check.is("39 wrong USED", x.isSound(), false);
        for (int lock = 0; lock < 4; lock++) {
            Deadlinekeeper y = three();
            y.section(0, 1, 0, 0);
            y.section(0, lock, 0, 4);
            y.run(2);
            int[] holders = (int[]) inside(inside(y, "course"), "holders");
            holders[lock] = 2;
            Check.is("39 held by one that is not there", y.isSound(), false);
            holders[lock] = 1;
            Check.is("39 held by one without a SECTION", y.isSound(), false);
            holders[lock] = 0;
            Check.is("39 held rightly", y.isSound(), true);
            put(((Object[]) inside(inside(y, "course"), "tasks"))[0], "left", 0);
            Check.is("39 held beyond its to", y.isSound(), false);
        }
    }

    private static boolean soundWith(Deadlinekeeper x, String name, int value) throws ReflectiveOperationException {
        x.run(1);
        put(tally(x, 0), name, value);
        return x.isSound();
    }

    private static Deadlinekeeper budgeted(Deadlinekeeper x) {
        x.budget(0, 8, 2);
        return x;
    }

    private static Deadlinekeeper sectioned(Deadlinekeeper x) {
        x.section(1, 0, 0, 1);
        return x;
    }

    private static Deadlinekeeper withOnce(Deadlinekeeper x) {
        x.once(60, 1, 1, 0, 0);
        return x;
    }

    private static Deadlinekeeper ruled(int mode, int protocol) {
        Deadlinekeeper x = repeating(mode, 0);
        x.rules(mode, 2, 0, protocol);
        return x;
    }

    private static void promise39Theorems() throws ReflectiveOperationException {
        Check.is("39 LESSER 1", soundWith(ruled(1, 2), "lesser", 1), true);
        Check.is("39 LESSER 2", soundWith(ruled(1, 2), "lesser", 2), false);
        Check.is("39 LESSER 2 with a BUDGET", soundWith(budgeted(ruled(1, 2)), "lesser", 2), true);
        Check.is("39 LESSER 2 with PROTOCOL 1", soundWith(ruled(1, 1), "lesser", 2), true);
        Check.is("39 LESSER 2 in MODE 2", soundWith(ruled(2, 2), "lesser", 2), true);
        Check.is("39 CUT", soundWith(repeating(0, 0), "cut", 1), false);
        Check.is("39 CUT with AGING", soundWith(repeating(0, 3), "cut", 1), false);
        Check.is("39 CUT with a BUDGET", soundWith(budgeted(repeating(0, 0)), "cut", 1), true);
        Check.is("39 CUT with a SECTION", soundWith(sectioned(repeating(0, 0)), "cut", 1), true);
        Check.is("39 CUT with a ONCE job", soundWith(withOnce(repeating(0, 0)), "cut", 1), true);
        Check.is("39 CUT in MODE 1", soundWith(repeating(1, 0), "cut", 1), true);
        Deadlinekeeper full = repeating(0, 0);
        full.every(0, 1, 10, 0);
        Check.is("39 share 120", full.share(), 120);
        Check.is("39 CUT with 120", soundWith(full, "cut", 1), false);
        full.again();
        full.every(0, 2, 60, 0);
        Check.is("39 CUT with more", soundWith(full, "cut", 1), true);
        Check.is("39 ANSWER 2", soundWith(repeating(1, 0), "longestAnswer", 2), true);
        Check.is("39 ANSWER 3", soundWith(repeating(1, 0), "longestAnswer", 3), false);
        Check.is("39 ANSWER with AGING", soundWith(repeating(1, 1), "longestAnswer", 3), true);
        Check.is("39 ANSWER in MODE 0", soundWith(repeating(0, 0), "longestAnswer", 3), true);
        Check.is("39 ANSWER with a BUDGET", soundWith(budgeted(repeating(1, 0)), "longestAnswer", 3), true);
        Check.is("39 ANSWER with a SECTION", soundWith(sectioned(repeating(1, 0)), "longestAnswer", 3), true);
        Check.is("39 ANSWER with a ONCE job", soundWith(withOnce(repeating(1, 0)), "longestAnswer", 3), true);
        Deadlinekeeper none = repeating(1, 0);
        none.every(0, 4, 4, 9);
        Check.is("39 no RESPONSE", none.response(0), -1);
        Check.is("39 ANSWER without RESPONSE", soundWith(none, "longestAnswer", 99), true);
    }

    private static void promise39OfEachJob() throws ReflectiveOperationException {
        String[] names = {"lesser", "lesser", "longestAnswer", "longestAnswer", "used"};
        int[] values = {1, 2, 12, 13, 60};
        for (int job = 0; job < 12; job++) {
            for (int k = 0; k < names.length; k++) {
                Deadlinekeeper x = new Deadlinekeeper();
                for (int other = 0; other < 12; other++) {
                    x.every(0, 1, 60, 9);
                }
                x.rules(1, 2, 0, 2);
                Check.is("28 RESPONSE", x.response(job), 12);
                x.run(20);
                put(tally(x, job), names[k], values[k]);
                Check.is("39 " + names[k] + " " + values[k] + " of " + job, x.isSound(), k == 0 || k == 2);
            }
        }
    }

    private static void promise40() {
        Check.is("40 new", new Deadlinekeeper().digest(), -7078129703441425613L);
        Deadlinekeeper x = three();
        x.every(1, 2, 8, 7);
        x.budget(3, 1, 6);
        x.needs(1, 2, true);
        x.strike(0);
        x.section(2, 3, 0, 1);
        x.every(0, 1, 20, 4);
        for (int mode = 0; mode < 4; mode++) {
            x.rules(mode, 3, 2, mode % 3);
            for (int k = 0; k < 20; k++) {
                Check.is("40 in MODE " + mode, x.digest(), digestOf(x));
                x.run(1 + k % 3);
            }
            x.again();
        }
        long before = x.digest();
        x.knock();
        Check.is("40 without knocks", x.digest(), before);
    }

    /** These were worked out by hand, number by number, and summed up outside of Java. */
    private static void promise40Told() {
        Deadlinekeeper x = new Deadlinekeeper();
        x.once(0, 2, 3, 4, 5);
        Check.is("40 a ONCE job", x.digest(), 7382720391143647262L);
        x.run(1);
        Check.is("40 it has run", x.digest(), -4977883278169952769L);
        x.again();
        x.undo();
        Check.is("40 as a new one", x.digest(), -7078129703441425613L);
        Deadlinekeeper y = new Deadlinekeeper();
        y.every(1, 2, 4, 3);
        Check.is("40 a REPEATING job", y.digest(), -2434007166840047872L);
    }

    /** The sum without an end, of which digest() tells the lowest 64 bits with their sign. */
    private static void wrapsAround(String name, Deadlinekeeper x) {
        digestOf(x);
        Check.is("40 goes beyond 64 bits, " + name, whole.bitLength() > 64, true);
        BigInteger rest = whole.mod(BigInteger.ONE.shiftLeft(64));
        boolean isNegative = rest.bitLength() == 64;
        BigInteger told = isNegative ? rest.subtract(BigInteger.ONE.shiftLeft(64)) : rest;
        Check.is("40 wraps around, " + name, String.valueOf(x.digest()), told.toString());
        negatives += isNegative ? 1 : 0;
        positives += isNegative ? 0 : 1;
    }

    private static void promise40WrapsAround() {
        wrapsAround("new", new Deadlinekeeper());
        Deadlinekeeper x = new Deadlinekeeper();
        for (int job = 0; job < 12; job++) {
            if (job % 4 == 3) {
                x.every(job, 3, 10, job % 10);
            } else {
                x.once(job, job % 3 == 0 ? 1 : 7, 9, 9 - job % 10, 90 - job);
            }
            wrapsAround(job + 1 + " JOBS", x);
        }
        Check.is("26 both KEPT are alike with nine", x.cutting(false, 0), x.cutting(true, 0));
        x.rules(1, 1, 1, 1);
        for (int k = 0; k < 30; k++) {
            x.run(10);
            wrapsAround("NOW " + x.ofAll(0), x);
        }
        Deadlinekeeper y = new Deadlinekeeper();
        y.once(0, 8, 8, 0, 10);
        y.once(0, 2, 8, 0, 6);
        y.once(0, 2, 8, 0, 7);
        Check.is("26 the KEPT are not alike", y.cutting(false, 0) * 10 + y.cutting(true, 0), 16);
        wrapsAround("not alike", y);
        Check.is("40 some wrap to below 0, some to above", negatives > 5 && positives > 5, true);
    }

    private static void promise40Unsound() throws ReflectiveOperationException {
        Deadlinekeeper x = three();
        x.run(3);
        long sound = x.digest();
        put(inside(x, "forecast"), "keptByRule", 0);
        put(inside(x, "forecast"), "kept", 0);
        Check.is("39 sound still", x.isSound(), true);
        long other = x.digest();
        put(inside(x, "course"), "now", 2);
        Check.is("39 not sound", x.isSound(), false);
        Check.is("40 with 0 for not sound", x.digest(), digestOf(x));
        put(inside(x, "course"), "now", 3);
        Check.is("40 with 1 for sound", x.digest(), other);
        Check.is("40 what is KEPT is in it", other == sound, false);
    }

    private static long d;
    private static BigInteger whole;
    private static int negatives;
    private static int positives;

    private static void add(long v) {
        d = d * 31 + v;
        whole = whole.multiply(BigInteger.valueOf(31)).add(BigInteger.valueOf(v));
    }

    /** As promise 40 says it, by the other promises alone. */
    static long digestOf(Deadlinekeeper x) {
        d = 5304;
        whole = BigInteger.valueOf(5304);
        for (int what = 0; what < 8; what++) {
            add(x.plan(what));
        }
        add(x.crowd(0));
        add(x.crowd(1));
        add(x.crowd(2));
        add(x.late());
        add(x.idle(0, 100));
        add(x.pick(0));
        add(x.pick(1));
        add(x.pick(2));
        add(x.cutting(false, 0));
        add(x.cutting(false, 1));
        add(x.cutting(true, 0));
        add(x.cutting(true, 1));
        add(x.share());
        add(x.last());
        for (int job = 0; job < 12; job++) {
            if ((x.plan(1) >> job & 1) != 0) {
                addJob(x, job);
            }
        }
        for (int what = 0; what < 9; what++) {
            add(x.ofAll(what));
        }
        for (int lock = 0; lock < 4; lock++) {
            add(x.ceiling(lock));
            add(x.holder(lock));
        }
        for (int minute = 0; minute < x.ofAll(0); minute++) {
            add(x.ran(minute));
        }
        add(x.isSound() ? 1 : 0);
        return d;
    }

    private static void addJob(Deadlinekeeper x, int job) {
        add(job);
        for (int what = 0; what < 10; what++) {
            add(x.ofJob(job, what));
        }
        for (int lock = 0; lock < 4; lock++) {
            add(x.ofSection(job, lock, false));
            add(x.ofSection(job, lock, true));
        }
        if ((x.plan(2) >> job & 1) != 0) {
            add(x.end(job));
            add(x.piece(job, 0, false));
            add(x.piece(job, 0, true));
            add(x.piece(job, 1, false));
            add(x.piece(job, 1, true));
        } else {
            add(x.response(job));
        }
        for (int what = 0; what < 10; what++) {
            add(x.ofTask(job, what));
        }
        for (int what = 0; what < 8; what++) {
            add(x.ofRun(job, what));
        }
    }
}
