import java.io.DataInputStream;
import java.io.IOException;
import java.io.InputStream;
import java.util.ArrayList;
import java.util.List;
import java.util.Map;
import java.util.Set;
import java.util.TreeMap;
import java.util.TreeSet;

/** What a compiled class calls, method by method. Nothing but the Java library is needed to read it. */
final class ClassFile {
    private static final int TABLESWITCH = 170;
    private static final int LOOKUPSWITCH = 171;
    private static final int INVOKEVIRTUAL = 182;
    private static final int INVOKEDYNAMIC = 186;
    private static final int WIDE = 196;
    /** How long the instructions from 0 to 201 are, in runs of the same length: length, how many. */
    private static final int[][] LENGTHS = {
        {1, 16}, {2, 1}, {3, 1}, {2, 1}, {3, 2}, {2, 5}, {1, 28}, {2, 5}, {1, 73}, {3, 1}, {1, 20}, {3, 16},
        {2, 1}, {0, 2}, {1, 6}, {3, 7}, {5, 2}, {3, 1}, {2, 1}, {3, 1}, {1, 2}, {3, 2}, {1, 2}, {0, 1}, {4, 1},
        {3, 2}, {5, 2}
    };

    private final Object[] pool;
    private final String name;
    /** From each method ("Class.name(signature)") to those that it calls. */
    final Map<String, Set<String>> calls = new TreeMap<>();
    final List<String> faults = new ArrayList<>();

    ClassFile(InputStream stream) throws IOException {
        try (DataInputStream in = new DataInputStream(stream)) {
            in.skipBytes(8);
            pool = readPool(in);
            in.skipBytes(2);
            name = (String) at(in.readUnsignedShort());
            in.skipBytes(2);
            in.skipBytes(2 * in.readUnsignedShort());
            readMembers(in, false);
            readMembers(in, true);
        }
    }

    private static Object[] readPool(DataInputStream in) throws IOException {
        Object[] pool = new Object[in.readUnsignedShort()];
        for (int k = 1; k < pool.length; k++) {
            int tag = in.readUnsignedByte();
            switch (tag) {
                case 1 -> pool[k] = in.readUTF();
                case 7, 8, 16, 19, 20 -> pool[k] = new int[] {in.readUnsignedShort()};
                case 9, 10, 11, 12, 17, 18 -> pool[k] = new int[] {in.readUnsignedShort(), in.readUnsignedShort()};
                case 3, 4 -> in.skipBytes(4);
                case 15 -> in.skipBytes(3);
                default -> {
                    in.skipBytes(8);
                    k++;
                }
            }
        }
        return pool;
    }

    /** What the number stands for, through names of classes, to a text. */
    private Object at(int k) {
        return pool[k] instanceof int[] row && row.length == 1 ? at(row[0]) : pool[k];
    }

    private String methodAt(int k) {
        int[] row = (int[]) pool[k];
        int[] nameAndType = (int[]) pool[row[1]];
        return at(row[0]) + "." + at(nameAndType[0]) + at(nameAndType[1]);
    }

    private void readMembers(DataInputStream in, boolean isMethods) throws IOException {
        int count = in.readUnsignedShort();
        for (int k = 0; k < count; k++) {
            in.skipBytes(2);
            String member = name + "." + at(in.readUnsignedShort()) + at(in.readUnsignedShort());
            Set<String> called = new TreeSet<>();
            int attributes = in.readUnsignedShort();
            for (int a = 0; a < attributes; a++) {
                boolean isCode = at(in.readUnsignedShort()).equals("Code");
                byte[] bytes = new byte[in.readInt()];
                in.readFully(bytes);
                if (isCode) {
                    readCode(member, bytes, called);
                }
            }
            if (isMethods) {
                calls.put(member, called);
            }
        }
    }

    private void readCode(String member, byte[] bytes, Set<String> called) {
        int start = 8;
        int end = start + number(bytes, 4);
        int at = start;
        while (at < end) {
            int code = bytes[at] & 255;
            if (code == INVOKEDYNAMIC) {
                faults.add(member + " calls by invokedynamic: a lambda, or texts joined by +");
            } else if (code >= INVOKEVIRTUAL && code < INVOKEDYNAMIC) {
                called.add(methodAt((bytes[at + 1] & 255) << 8 | bytes[at + 2] & 255));
            }
            at += lengthOf(bytes, at, start);
        }
        if (bytes[end] != 0 || bytes[end + 1] != 0) {
            faults.add(member + " catches");
        }
    }

    private static int lengthOf(byte[] bytes, int at, int start) {
        int code = bytes[at] & 255;
        int numbers = at + 4 - (at - start) % 4;
        if (code == TABLESWITCH) {
            return numbers + 12 + 4 * (number(bytes, numbers + 8) - number(bytes, numbers + 4) + 1) - at;
        }
        if (code == LOOKUPSWITCH) {
            return numbers + 8 + 8 * number(bytes, numbers + 4) - at;
        }
        if (code == WIDE) {
            return (bytes[at + 1] & 255) == 132 ? 6 : 4;
        }
        int left = code;
        for (int[] run : LENGTHS) {
            if (left < run[1]) {
                return run[0];
            }
            left -= run[1];
        }
        throw new IllegalStateException("no instruction " + code);
    }

    private static int number(byte[] bytes, int at) {
        return (bytes[at] & 255) << 24 | (bytes[at + 1] & 255) << 16 | (bytes[at + 2] & 255) << 8 | bytes[at + 3] & 255;
    }
}
