import java.io.DataInputStream;
import java.io.IOException;
import java.io.InputStream;
import java.util.LinkedHashSet;
import java.util.Map;
import java.util.Set;
import java.util.TreeMap;
import java.util.TreeSet;

/**
 * What the methods of compiled classes call and which instructions they use, so that the rules of
 * the language are looked at in what javac made and not by the words of the source.
 */
final class Bytecode {
    static final int PUT_STATIC = 0xb3;
    static final int INVOKE_DYNAMIC = 0xba;
    static final int THROW = 0xbf;
    static final int CHECK_CAST = 0xc0;
    static final int ENTER_MONITOR = 0xc2;

    /** For each method (class.name and type) the methods it calls, of the same classes or not. */
    final Map<String, Set<String>> calls = new TreeMap<>();
    /** For each method the instructions it uses. */
    final Map<String, Set<Integer>> instructions = new TreeMap<>();
    /** The methods that have a table of exceptions that they catch. */
    final Set<String> catching = new TreeSet<>();

    private Object[] pool;
    private String className;

    void add(Class<?> one) throws IOException {
        className = one.getName();
        try (InputStream raw = one.getResourceAsStream("/" + className + ".class"); DataInputStream in = new DataInputStream(raw)) {
            in.skipBytes(8);
            readPool(in);
            in.skipBytes(6);
            in.skipBytes(2 * in.readUnsignedShort());
            readMembers(in); // fields
            readMembers(in);
        }
    }

    private void readPool(DataInputStream in) throws IOException {
        pool = new Object[in.readUnsignedShort()];
        for (int i = 1; i < pool.length; i++) {
            int tag = in.readUnsignedByte();
            switch (tag) {
                case 1 -> pool[i] = in.readUTF();
                case 3, 4 -> in.skipBytes(4);
                case 5, 6 -> {
                    in.skipBytes(8);
                    i++;
                }
                case 7, 8, 16, 19, 20 -> pool[i] = new int[] {in.readUnsignedShort()};
                case 15 -> in.skipBytes(3);
                default -> pool[i] = new int[] {in.readUnsignedShort(), in.readUnsignedShort()};
            }
        }
    }

    private String text(int i) {
        return (String) pool[i];
    }

    private String nameOf(int i) {
        int[] member = (int[]) pool[i];
        int[] owner = (int[]) pool[member[0]];
        int[] nameAndType = (int[]) pool[member[1]];
        return text(owner[0]).replace('/', '.') + "." + text(nameAndType[0]) + text(nameAndType[1]);
    }

    private void readMembers(DataInputStream in) throws IOException {
        int members = in.readUnsignedShort();
        for (int i = 0; i < members; i++) {
            in.skipBytes(2);
            String name = className + "." + text(in.readUnsignedShort()) + text(in.readUnsignedShort());
            int attributes = in.readUnsignedShort();
            for (int j = 0; j < attributes; j++) {
                String attribute = text(in.readUnsignedShort());
                byte[] bytes = new byte[in.readInt()];
                in.readFully(bytes);
                if (attribute.equals("Code")) {
                    readCode(name, bytes);
                }
            }
        }
    }

    private void readCode(String name, byte[] bytes) {
        Set<String> called = new LinkedHashSet<>();
        Set<Integer> used = new TreeSet<>();
        int length = fourBytes(bytes, 4);
        int start = 8;
        for (int at = 0; at < length;) {
            int instruction = bytes[start + at] & 255;
            used.add(instruction);
            if (instruction >= 0xb6 && instruction <= 0xb9) {
                called.add(nameOf(twoBytes(bytes, start + at + 1)));
            }
            at += lengthOf(bytes, start, at);
        }
        calls.put(name, called);
        instructions.put(name, used);
        if (twoBytes(bytes, start + length) > 0) {
            catching.add(name);
        }
    }

    private static int lengthOf(byte[] bytes, int start, int at) {
        int instruction = bytes[start + at] & 255;
        int padded = (at + 4) & ~3;
        if (instruction == 0xaa) {
            int low = fourBytes(bytes, start + padded + 4);
            int high = fourBytes(bytes, start + padded + 8);
            return padded + 12 + 4 * (high - low + 1) - at;
        }
        if (instruction == 0xab) {
            return padded + 8 + 8 * fourBytes(bytes, start + padded + 4) - at;
        }
        if (instruction == 0xc4) {
            return (bytes[start + at + 1] & 255) == 0x84 ? 6 : 4;
        }
        return plainLengthOf(instruction);
    }

    private static int plainLengthOf(int i) {
        if (i == 0xb9 || i == 0xba || i == 0xc8 || i == 0xc9) {
            return 5;
        }
        if (i == 0xc5) {
            return 4;
        }
        if (i == 0x11 || i == 0x13 || i == 0x14 || i == 0x84 || i >= 0x99 && i <= 0xa8 || i >= 0xb2 && i <= 0xb8
                || i == 0xbb || i == 0xbd || i == 0xc0 || i == 0xc1 || i == 0xc6 || i == 0xc7) {
            return 3;
        }
        if (i == 0x10 || i == 0x12 || i >= 0x15 && i <= 0x19 || i >= 0x36 && i <= 0x3a || i == 0xa9 || i == 0xbc) {
            return 2;
        }
        return 1;
    }

    private static int twoBytes(byte[] bytes, int at) {
        return (bytes[at] & 255) << 8 | bytes[at + 1] & 255;
    }

    private static int fourBytes(byte[] bytes, int at) {
        return twoBytes(bytes, at) << 16 | twoBytes(bytes, at + 2);
    }

    /** The longest chain of calls from a method on in which none is open twice. */
    int depthFrom(String method, Set<String> open) {
        if (!calls.containsKey(method) || !open.add(method)) {
            return 0;
        }
        int deepest = 0;
        for (String called : calls.get(method)) {
            deepest = Math.max(deepest, depthFrom(called, open));
        }
        open.remove(method);
        return deepest + 1;
    }

    /** All that a method reaches, by any number of calls. */
    Set<String> reachedFrom(String method) {
        Set<String> reached = new TreeSet<>();
        reach(method, reached);
        return reached;
    }

    private void reach(String method, Set<String> reached) {
        for (String called : calls.getOrDefault(method, Set.of())) {
            if (reached.add(called)) {
                reach(called, reached);
            }
        }
    }
}
