import java.io.ByteArrayInputStream;
import java.io.DataInputStream;
import java.io.IOException;
import java.io.InputStream;
import java.util.ArrayList;
import java.util.List;

/** What the methods of a compiled class do, as far as LanguageTest asks: what they call, make and catch. */
final class ClassFile {

    /** A method: "Rowan$Types.push", with what it calls and makes told in the same way. */
    static final class Code {
        final String name;
        final List<String> calls = new ArrayList<>();
        final List<String> objects = new ArrayList<>();
        int arrays = 0;
        int throwing = 0;
        int catching = 0;
        boolean isDynamic = false;

        Code(String name) {
            this.name = name;
        }
    }

    private static final int TABLE_SWITCH = 170;
    private static final int LOOKUP_SWITCH = 171;
    private static final int INVOKE_VIRTUAL = 182;
    private static final int INVOKE_INTERFACE = 185;
    private static final int INVOKE_DYNAMIC = 186;
    private static final int NEW = 187;
    private static final int NEW_ARRAY = 188;
    private static final int NEW_ARRAY_OF_OBJECTS = 189;
    private static final int THROW = 191;
    private static final int WIDE = 196;
    private static final int NEW_ARRAY_OF_ARRAYS = 197;

    private final DataInputStream in;
    private final int[] first;
    private final int[] second;
    private final String[] texts;
    private final List<Code> codes = new ArrayList<>();

    private ClassFile(byte[] bytes) throws IOException {
        in = new DataInputStream(new ByteArrayInputStream(bytes));
        in.skipBytes(8);
        int count = in.readUnsignedShort();
        first = new int[count];
        second = new int[count];
        texts = new String[count];
        readConstants();
        readMembers();
    }

    static List<Code> codesOf(Class<?> type) throws IOException {
        try (InputStream stream = type.getResourceAsStream(type.getName() + ".class")) {
            return new ClassFile(stream.readAllBytes()).codes;
        }
    }

    private void readConstants() throws IOException {
        for (int i = 1; i < texts.length; i++) {
            int tag = in.readUnsignedByte();
            switch (tag) {
                case 1:
                    texts[i] = in.readUTF();
                    break;
                case 5:
                case 6:
                    // A long or a double takes two places.
                    in.skipBytes(8);
                    i++;
                    break;
                case 7:
                case 8:
                case 16:
                case 19:
                case 20:
                    first[i] = in.readUnsignedShort();
                    break;
                case 15:
                    in.skipBytes(3);
                    break;
                default:
                    first[i] = in.readUnsignedShort();
                    second[i] = in.readUnsignedShort();
                    break;
            }
        }
    }

    private void readMembers() throws IOException {
        in.skipBytes(2);
        String type = classAt(in.readUnsignedShort());
        in.skipBytes(2);
        in.skipBytes(2 * in.readUnsignedShort());
        readMembers("");
        readMembers(type);
    }

    /** The fields, of no type, or the methods of one. */
    private void readMembers(String type) throws IOException {
        int count = in.readUnsignedShort();
        for (int i = 0; i < count; i++) {
            in.skipBytes(2);
            Code code = new Code(type + "." + texts[in.readUnsignedShort()]);
            in.skipBytes(2);
            int attributes = in.readUnsignedShort();
            for (int k = 0; k < attributes; k++) {
                boolean isCode = texts[in.readUnsignedShort()].equals("Code");
                byte[] content = new byte[in.readInt()];
                in.readFully(content);
                if (isCode) {
                    readCode(content, code);
                }
            }
            if (!type.isEmpty()) {
                codes.add(code);
            }
        }
    }

    private void readCode(byte[] content, Code code) throws IOException {
        DataInputStream body = new DataInputStream(new ByteArrayInputStream(content));
        body.skipBytes(4);
        byte[] steps = new byte[body.readInt()];
        body.readFully(steps);
        code.catching = body.readUnsignedShort();
        for (int at = 0; at < steps.length; at += lengthOf(steps, at)) {
            int step = steps[at] & 255;
            if (step >= INVOKE_VIRTUAL && step <= INVOKE_INTERFACE) {
                int method = shortAt(steps, at + 1);
                code.calls.add(classAt(first[method]) + "." + texts[first[second[method]]]);
            } else if (step == NEW) {
                code.objects.add(classAt(shortAt(steps, at + 1)));
            }
            code.arrays += step == NEW_ARRAY || step == NEW_ARRAY_OF_OBJECTS || step == NEW_ARRAY_OF_ARRAYS ? 1 : 0;
            code.throwing += step == THROW ? 1 : 0;
            code.isDynamic |= step == INVOKE_DYNAMIC;
        }
    }

    private String classAt(int index) {
        return texts[first[index]];
    }

    private static int shortAt(byte[] steps, int at) {
        return (steps[at] & 255) << 8 | steps[at + 1] & 255;
    }

    private static int intAt(byte[] steps, int at) {
        return shortAt(steps, at) << 16 | shortAt(steps, at + 2);
    }

    private static int lengthOf(byte[] steps, int at) {
        int step = steps[at] & 255;
        int aligned = 4 - at % 4;
        if (step == TABLE_SWITCH) {
            return aligned + 12 + 4 * (intAt(steps, at + aligned + 8) - intAt(steps, at + aligned + 4) + 1);
        }
        if (step == LOOKUP_SWITCH) {
            return aligned + 8 + 8 * intAt(steps, at + aligned + 4);
        }
        if (step == WIDE) {
            return (steps[at + 1] & 255) == 132 ? 6 : 4;
        }
        return plainLengthOf(step);
    }

    /** The lengths of what stands between the opcodes 0 and 201, as the Java machine's book tells them. */
    private static int plainLengthOf(int step) {
        boolean isWithByte = step == 16 || step == 18 || step >= 21 && step <= 25 || step >= 54 && step <= 58
                || step == 169 || step == NEW_ARRAY;
        boolean isWithShort = step == 17 || step == 19 || step == 20 || step == 132 || step >= 153 && step <= 168
                || step >= 178 && step <= 184 || step == NEW || step == NEW_ARRAY_OF_OBJECTS
                || step == 192 || step == 193 || step == 198 || step == 199;
        boolean isWithFour = step == INVOKE_INTERFACE || step == INVOKE_DYNAMIC || step == 200 || step == 201;
        return isWithByte ? 2 : isWithShort ? 3 : step == NEW_ARRAY_OF_ARRAYS ? 4 : isWithFour ? 5 : 1;
    }
}
