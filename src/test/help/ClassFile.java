import java.io.ByteArrayInputStream;
import java.io.DataInputStream;
import java.io.IOException;
import java.io.InputStream;
import java.util.ArrayList;
import java.util.List;

/**
 * What a compiled class holds, as far as tests of LANGUAGE.md need it: reflection tells nothing of what a method does,
 * and the source's text does not tell for sure what a name in it means.
 */
final class ClassFile {
    /** A method, and what its code does, each as a text like "Math.max(II)I" or "new State". */
    static final class Body {
        final String owner;
        final String name;
        final String type;
        final List<String> calls = new ArrayList<>();
        final List<String> makes = new ArrayList<>();
        final List<String> odd = new ArrayList<>();

        Body(String owner, String name, String type) {
            this.owner = owner;
            this.name = name;
            this.type = type;
        }

        String key() {
            return owner + "." + name + type;
        }
    }

    final String name;
    final String above;
    final List<Body> methods = new ArrayList<>();
    /** Types of all fields, static ones too. */
    final List<String> fieldTypes = new ArrayList<>();

    private final Object[] pool;

    ClassFile(Class<?> c) throws IOException {
        try (InputStream file = c.getResourceAsStream(c.getName() + ".class");
                DataInputStream in = new DataInputStream(new ByteArrayInputStream(file.readAllBytes()))) {
            in.readLong();
            pool = readPool(in);
            in.readUnsignedShort();
            name = classAt(in.readUnsignedShort());
            above = classAt(in.readUnsignedShort());
            in.skipBytes(2 * in.readUnsignedShort());
            readFields(in);
            readMethods(in);
        }
    }

    // ---- the pool of constants

    /** Texts are kept as they are, all that only points elsewhere as its numbers. */
    private static Object[] readPool(DataInputStream in) throws IOException {
        Object[] pool = new Object[in.readUnsignedShort()];
        for (int i = 1; i < pool.length; i++) {
            int tag = in.readUnsignedByte();
            switch (tag) {
                case 1: pool[i] = in.readUTF(); break;
                case 3: case 4: in.readInt(); break;
                case 5: case 6: in.readLong(); i++; break;
                case 7: case 8: case 16: case 19: case 20: pool[i] = new int[] {in.readUnsignedShort()}; break;
                case 9: case 10: case 11: case 12: case 17: case 18:
                    pool[i] = new int[] {in.readUnsignedShort(), in.readUnsignedShort()};
                    break;
                case 15: in.readUnsignedByte(); in.readUnsignedShort(); break;
                default: throw new IOException("a constant of kind " + tag);
            }
        }
        return pool;
    }

    private String textAt(int i) {
        return (String) pool[i];
    }

    private String classAt(int i) {
        return i == 0 ? "" : textAt(((int[]) pool[i])[0]);
    }

    private String memberAt(int i) {
        int[] member = (int[]) pool[i];
        int[] nameAndType = (int[]) pool[member[1]];
        return classAt(member[0]) + "." + textAt(nameAndType[0]) + textAt(nameAndType[1]);
    }

    // ---- fields, methods

    private void readFields(DataInputStream in) throws IOException {
        for (int n = in.readUnsignedShort(); n > 0; n--) {
            in.readInt();
            fieldTypes.add(textAt(in.readUnsignedShort()));
            for (int k = in.readUnsignedShort(); k > 0; k--) {
                in.readUnsignedShort();
                in.skipBytes(in.readInt());
            }
        }
    }

    private void readMethods(DataInputStream in) throws IOException {
        for (int n = in.readUnsignedShort(); n > 0; n--) {
            in.readUnsignedShort();
            Body body = new Body(name, textAt(in.readUnsignedShort()), textAt(in.readUnsignedShort()));
            methods.add(body);
            for (int k = in.readUnsignedShort(); k > 0; k--) {
                String kind = textAt(in.readUnsignedShort());
                byte[] content = new byte[in.readInt()];
                in.readFully(content);
                if (kind.equals("Code")) {
                    readCode(body, new DataInputStream(new ByteArrayInputStream(content)));
                }
            }
        }
    }

    private void readCode(Body body, DataInputStream in) throws IOException {
        in.readInt();
        byte[] code = new byte[in.readInt()];
        in.readFully(code);
        if (in.readUnsignedShort() > 0) {
            body.odd.add("catch");
        }
        int at = 0;
        while (at < code.length) {
            note(body, code, at);
            at += size(code, at);
        }
    }

    private void note(Body body, byte[] code, int at) {
        switch (code[at] & 255) {
            case 182: case 183: case 184: case 185: body.calls.add(memberAt(shortAt(code, at + 1))); break;
            case 186: body.odd.add("invokedynamic"); break;
            case 187: body.makes.add("new " + classAt(shortAt(code, at + 1))); break;
            case 188: body.makes.add("new row of kind " + code[at + 1]); break;
            case 189: body.makes.add("new row of " + classAt(shortAt(code, at + 1))); break;
            case 197: body.makes.add("new rows of " + classAt(shortAt(code, at + 1))); break;
            case 191: body.odd.add("throw"); break;
            case 192: body.odd.add("cast"); break;
            case 194: case 195: body.odd.add("synchronized"); break;
            default:
        }
    }

    private static int shortAt(byte[] code, int at) {
        return (code[at] & 255) << 8 | code[at + 1] & 255;
    }

    private static int intAt(byte[] code, int at) {
        return shortAt(code, at) << 16 | shortAt(code, at + 2);
    }

    /** How many bytes an instruction has, with what stands behind it. */
    private static int size(byte[] code, int at) {
        int op = code[at] & 255;
        int table = at + 4 - at % 4;
        switch (op) {
            case 170: return table + 12 + 4 * (intAt(code, table + 8) - intAt(code, table + 4) + 1) - at;
            case 171: return table + 8 + 8 * intAt(code, table + 4) - at;
            case 196: return (code[at + 1] & 255) == 132 ? 6 : 4;
            case 185: case 186: case 200: case 201: return 5;
            case 197: return 4;
            case 16: case 18: case 169: case 188: return 2;
            case 17: case 19: case 20: case 132: case 187: case 189: case 192: case 193: case 198: case 199: return 3;
            default:
        }
        if (op >= 21 && op <= 25 || op >= 54 && op <= 58) {
            return 2;
        }
        return op >= 153 && op <= 168 || op >= 178 && op <= 184 ? 3 : 1;
    }
}
