import java.io.ByteArrayInputStream;
import java.io.DataInputStream;
import java.io.IOException;
import java.io.InputStream;
import java.util.LinkedHashMap;
import java.util.LinkedHashSet;
import java.util.Map;
import java.util.Set;

/** What a class calls, read from its bytecode, for the rules that the source alone does not show. */
final class ClassFile {
    private static final int INVOKE_VIRTUAL = 182;
    private static final int INVOKE_INTERFACE = 185;
    private static final int INVOKE_DYNAMIC = 186;
    private static final int THROW = 191;
    private static final int ENTER_MONITOR = 194;

    /** By method: whom it calls; each is written as class.name and its types. */
    final Map<String, Set<String>> calls = new LinkedHashMap<>();
    /** Instructions and tables that LANGUAGE.md rules out. */
    final Set<String> refused = new LinkedHashSet<>();
    private final String name;
    private Object[] pool;

    ClassFile(Class<?> type) throws IOException {
        name = type.getName();
        try (InputStream bytes = type.getResourceAsStream("/" + name + ".class")) {
            read(new DataInputStream(new ByteArrayInputStream(bytes.readAllBytes())));
        }
    }

    private void read(DataInputStream in) throws IOException {
        in.skipBytes(8);
        readPool(in);
        in.skipBytes(6);
        in.skipBytes(2 * in.readUnsignedShort());
        for (int fields = in.readUnsignedShort(); fields > 0; fields--) {
            in.skipBytes(6);
            skipAttributes(in);
        }
        for (int methods = in.readUnsignedShort(); methods > 0; methods--) readMethod(in);
    }

    private void readPool(DataInputStream in) throws IOException {
        pool = new Object[in.readUnsignedShort()];
        for (int k = 1; k < pool.length; k++) {
            int tag = in.readUnsignedByte();
            switch (tag) {
                case 1 -> pool[k] = in.readUTF();
                case 3, 4 -> in.skipBytes(4);
                case 5, 6 -> {
                    in.skipBytes(8);
                    k++;
                }
                case 7, 8, 16, 19, 20 -> pool[k] = new int[] {in.readUnsignedShort()};
                case 15 -> in.skipBytes(3);
                default -> pool[k] = new int[] {in.readUnsignedShort(), in.readUnsignedShort()};
            }
        }
    }

    private String text(int index) {
        return (String) pool[index];
    }

    private String member(int index) {
        int[] both = (int[]) pool[index];
        int[] named = (int[]) pool[both[1]];
        return text(((int[]) pool[both[0]])[0]) + "." + text(named[0]) + text(named[1]);
    }

    private void skipAttributes(DataInputStream in) throws IOException {
        for (int n = in.readUnsignedShort(); n > 0; n--) {
            in.skipBytes(2);
            in.skipBytes(in.readInt());
        }
    }

    private void readMethod(DataInputStream in) throws IOException {
        in.skipBytes(2);
        String method = name + "." + text(in.readUnsignedShort()) + text(in.readUnsignedShort());
        Set<String> called = new LinkedHashSet<>();
        calls.put(method, called);
        for (int n = in.readUnsignedShort(); n > 0; n--) {
            String attribute = text(in.readUnsignedShort());
            int length = in.readInt();
            if (!attribute.equals("Code")) {
                in.skipBytes(length);
                continue;
            }
            in.skipBytes(4);
            byte[] code = new byte[in.readInt()];
            in.readFully(code);
            walk(method, code, called);
            int handlers = in.readUnsignedShort();
            if (handlers > 0) refused.add(method + " catches");
            in.skipBytes(8 * handlers);
            skipAttributes(in);
        }
    }

    private void walk(String method, byte[] code, Set<String> called) {
        for (int at = 0; at < code.length; at += lengthOf(code, at)) {
            int op = code[at] & 255;
            if (op >= INVOKE_VIRTUAL && op <= INVOKE_INTERFACE) called.add(member((code[at + 1] & 255) << 8 | code[at + 2] & 255));
            if (op == INVOKE_DYNAMIC || op == THROW || op == ENTER_MONITOR) refused.add(method + " has instruction " + op);
        }
    }

    private static int word(byte[] code, int at) {
        return (code[at] & 255) << 24 | (code[at + 1] & 255) << 16 | (code[at + 2] & 255) << 8 | code[at + 3] & 255;
    }

    private static int lengthOf(byte[] code, int at) {
        int op = code[at] & 255;
        int table = (at + 4) / 4 * 4;
        if (op == 170) return table + 12 + 4 * (word(code, table + 8) - word(code, table + 4) + 1) - at;
        if (op == 171) return table + 8 + 8 * word(code, table + 4) - at;
        if (op == 196) return (code[at + 1] & 255) == 132 ? 6 : 4;
        if (op == 185 || op == 186 || op == 200 || op == 201) return 5;
        if (op == 197) return 4;
        if (op == 16 || op == 18 || op >= 21 && op <= 25 || op >= 54 && op <= 58 || op == 169 || op == 188) return 2;
        boolean three = op == 17 || op == 19 || op == 20 || op == 132 || op >= 153 && op <= 168 || op >= 178 && op <= 184
                || op == 187 || op == 189 || op == 192 || op == 193 || op == 198 || op == 199;
        return three ? 3 : 1;
    }
}
