import java.io.ByteArrayInputStream;
import java.io.DataInputStream;
import java.io.IOException;
import java.util.ArrayList;
import java.util.List;
import java.util.Set;
import java.util.TreeSet;

/** What javac made of a class: which methods it has, and what these call and do. */
final class ClassFile {
    static final int INVOKEDYNAMIC = 186;
    static final int NEW = 187;
    static final int NEWARRAY = 188;
    static final int ANEWARRAY = 189;
    static final int ATHROW = 191;
    static final int MONITORENTER = 194;
    static final int MULTIANEWARRAY = 197;

    private static final int TABLESWITCH = 170;
    private static final int LOOKUPSWITCH = 171;
    private static final int WIDE = 196;
    private static final int IINC = 132;

    /** A method by its name, with the steps (opcodes) in it, and the names of the methods that it calls. */
    static final class Method {
        final String name;
        final Set<Integer> steps = new TreeSet<>();
        final Set<String> calls = new TreeSet<>();
        int handlers = 0;

        Method(String name) {
            this.name = name;
        }

        boolean beginsSomething() {
            return name.contains(".<init>") || name.contains(".<clinit>");
        }

        boolean does(int step) {
            return steps.contains(step);
        }
    }

    final List<Method> methods = new ArrayList<>();
    private final Object[] pool;
    private final String name;

    ClassFile(byte[] bytes) throws IOException {
        DataInputStream in = new DataInputStream(new ByteArrayInputStream(bytes));
        in.readLong();
        pool = new Object[in.readUnsignedShort()];
        readPool(in);
        in.readUnsignedShort();
        name = nameOf(in.readUnsignedShort());
        in.readUnsignedShort();
        in.skipBytes(2 * in.readUnsignedShort());
        readMembers(in, false);
        readMembers(in, true);
    }

    private void readPool(DataInputStream in) throws IOException {
        for (int i = 1; i < pool.length; i++) {
            int tag = in.readUnsignedByte();
            switch (tag) {
                case 1:
                    pool[i] = in.readUTF();
                    break;
                case 5:
                case 6:
                    in.readLong();
                    i++;
                    break;
                case 7:
                case 8:
                case 16:
                case 19:
                case 20:
                    pool[i] = new int[] {in.readUnsignedShort()};
                    break;
                case 15:
                    in.skipBytes(3);
                    break;
                case 3:
                case 4:
                    in.readInt();
                    break;
                default:
                    pool[i] = new int[] {in.readUnsignedShort(), in.readUnsignedShort()};
                    break;
            }
        }
    }

    private String nameOf(int i) {
        return (String) pool[((int[]) pool[i])[0]];
    }

    /** The method that a call means: its class, name and types. */
    private String calledAt(int i) {
        int[] call = (int[]) pool[i];
        int[] member = (int[]) pool[call[1]];
        return nameOf(call[0]) + "." + pool[member[0]] + pool[member[1]];
    }

    private void readMembers(DataInputStream in, boolean areMethods) throws IOException {
        int n = in.readUnsignedShort();
        for (int i = 0; i < n; i++) {
            in.readUnsignedShort();
            Method method = new Method(name + "." + pool[in.readUnsignedShort()] + pool[in.readUnsignedShort()]);
            int attributes = in.readUnsignedShort();
            for (int k = 0; k < attributes; k++) {
                boolean isCode = pool[in.readUnsignedShort()].equals("Code");
                byte[] body = new byte[in.readInt()];
                in.readFully(body);
                if (isCode) {
                    readCode(body, method);
                }
            }
            if (areMethods) {
                methods.add(method);
            }
        }
    }

    private void readCode(byte[] body, Method method) throws IOException {
        DataInputStream in = new DataInputStream(new ByteArrayInputStream(body));
        in.readInt();
        byte[] code = new byte[in.readInt()];
        in.readFully(code);
        method.handlers = in.readUnsignedShort();
        for (int at = 0; at < code.length; at += lengthAt(code, at)) {
            int step = code[at] & 255;
            method.steps.add(step);
            if (step >= 182 && step <= 185) {
                method.calls.add(calledAt((code[at + 1] & 255) << 8 | code[at + 2] & 255));
            }
        }
    }

    private static int wordAt(byte[] code, int at) {
        return (code[at] & 255) << 24 | (code[at + 1] & 255) << 16 | (code[at + 2] & 255) << 8 | code[at + 3] & 255;
    }

    private static int lengthAt(byte[] code, int at) {
        int step = code[at] & 255;
        int table = at + 4 - at % 4;
        switch (step) {
            case TABLESWITCH:
                return table + 16 + 4 * (wordAt(code, table + 8) - wordAt(code, table + 4)) - at;
            case LOOKUPSWITCH:
                return table + 8 + 8 * wordAt(code, table + 4) - at;
            case WIDE:
                return (code[at + 1] & 255) == IINC ? 6 : 4;
            case MULTIANEWARRAY:
                return 4;
            case 16:
            case 18:
            case 169:
            case NEWARRAY:
                return 2;
            case 185:
            case INVOKEDYNAMIC:
            case 200:
            case 201:
                return 5;
            default:
                return isTwoLong(step) ? 2 : isThreeLong(step) ? 3 : 1;
        }
    }

    private static boolean isTwoLong(int step) {
        return step >= 21 && step <= 25 || step >= 54 && step <= 58;
    }

    private static boolean isThreeLong(int step) {
        return step == 17 || step == 19 || step == 20 || step == IINC || step >= 153 && step <= 168
                || step >= 178 && step <= 184 || step == NEW || step == ANEWARRAY
                || step == 192 || step == 193 || step == 198 || step == 199;
    }
}
