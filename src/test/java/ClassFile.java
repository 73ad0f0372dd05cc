import java.io.DataInputStream;
import java.io.IOException;
import java.io.InputStream;
import java.util.ArrayList;
import java.util.List;

/** A compiled class: its methods, what each calls, and the instructions that it is made of. */
final class ClassFile {
    private static final int WIDE = 0xc4, TABLE_SWITCH = 0xaa, LOOKUP_SWITCH = 0xab;
    /** The operands' bytes of each instruction from 0 on, as the JVM's specification has them. */
    private static final String OPERANDS = "0".repeat(16) + "12122" + "1".repeat(5) + "0".repeat(28) + "1".repeat(5)
        + "0".repeat(73) + "2" + "0".repeat(20) + "2".repeat(16) + "1" + "??" + "0".repeat(6) + "2".repeat(7) + "44" + "212"
        + "0022" + "00" + "?" + "3" + "2244";

    /** One method: its name with its class and its type, the methods it names, and its instructions. */
    static final class Code {
        final String name;
        final List<String> calls = new ArrayList<>();
        final List<Integer> instructions = new ArrayList<>();
        int handlers = 0;

        Code(String name) {
            this.name = name;
        }
    }

    final List<Code> methods = new ArrayList<>();
    private final Object[] pool;
    private final String owner;

    ClassFile(Class<?> of) throws IOException {
        String file = of.getName() + ".class";
        try (InputStream bytes = ViewCards.class.getResourceAsStream(file); DataInputStream in = new DataInputStream(bytes)) {
            in.readInt();
            in.readInt();
            pool = readPool(in);
            in.readUnsignedShort();
            owner = className(in.readUnsignedShort());
            in.readUnsignedShort();
            for (int n = in.readUnsignedShort(); n > 0; n--) in.readUnsignedShort();
            readMembers(in, false);
            readMembers(in, true);
        }
    }

    private static Object[] readPool(DataInputStream in) throws IOException {
        Object[] pool = new Object[in.readUnsignedShort()];
        for (int i = 1; i < pool.length; i++) {
            int tag = in.readUnsignedByte();
            switch (tag) {
                case 1: pool[i] = in.readUTF(); break;
                case 3: case 4: in.readInt(); break;
                case 5: case 6: in.readLong(); i++; break;
                case 7: pool[i] = new int[] {in.readUnsignedShort()}; break;
                case 8: case 16: case 19: case 20: in.readUnsignedShort(); break;
                case 9: case 10: case 11: case 12: pool[i] = new int[] {in.readUnsignedShort(), in.readUnsignedShort()}; break;
                default: throw new IOException("tag " + tag + ": nothing dynamic may be here");
            }
        }
        return pool;
    }

    private String className(int at) {
        return (String) pool[((int[]) pool[at])[0]];
    }

    private String methodName(int at) {
        int[] method = (int[]) pool[at];
        int[] nameAndType = (int[]) pool[method[1]];
        return className(method[0]) + "." + pool[nameAndType[0]] + pool[nameAndType[1]];
    }

    private void readMembers(DataInputStream in, boolean areMethods) throws IOException {
        for (int n = in.readUnsignedShort(); n > 0; n--) {
            in.readUnsignedShort();
            Code code = new Code(owner + "." + pool[in.readUnsignedShort()] + pool[in.readUnsignedShort()]);
            for (int attributes = in.readUnsignedShort(); attributes > 0; attributes--) {
                boolean isCode = pool[in.readUnsignedShort()].equals("Code");
                int size = in.readInt();
                if (isCode) readCode(in, code);
                else in.skipBytes(size);
            }
            if (areMethods) methods.add(code);
        }
    }

    private void readCode(DataInputStream in, Code code) throws IOException {
        in.readInt();
        byte[] bytes = new byte[in.readInt()];
        in.readFully(bytes);
        code.handlers = in.readUnsignedShort();
        in.skipBytes(8 * code.handlers);
        for (int n = in.readUnsignedShort(); n > 0; n--) {
            in.readUnsignedShort();
            in.skipBytes(in.readInt());
        }
        for (int at = 0; at < bytes.length; at += sizeAt(bytes, at)) {
            int instruction = bytes[at] & 255;
            code.instructions.add(instruction);
            if (instruction >= 0xb6 && instruction <= 0xb9) code.calls.add(methodName(shortAt(bytes, at + 1)));
        }
    }

    private static int shortAt(byte[] bytes, int at) {
        return (bytes[at] & 255) << 8 | bytes[at + 1] & 255;
    }

    private static int intAt(byte[] bytes, int at) {
        return shortAt(bytes, at) << 16 | shortAt(bytes, at + 2);
    }

    private static int sizeAt(byte[] bytes, int at) {
        int instruction = bytes[at] & 255;
        int table = (at + 4) / 4 * 4;
        switch (instruction) {
            case WIDE: return (bytes[at + 1] & 255) == 0x84 ? 6 : 4;
            case TABLE_SWITCH: return table + 12 + 4 * (intAt(bytes, table + 8) - intAt(bytes, table + 4) + 1) - at;
            case LOOKUP_SWITCH: return table + 8 + 8 * intAt(bytes, table + 4) - at;
            default: return 1 + OPERANDS.charAt(instruction) - '0';
        }
    }
}
