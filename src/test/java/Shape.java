import java.util.ArrayList;
import java.util.List;

/** Puts the bytes of a class together; marks tell the places that a test asks for. */
final class Shape {
    static final int MAGIC = 0xCAFEBABE;

    private final List<Integer> bytes = new ArrayList<>();
    private int mark = -1;

    Shape u1(int... values) {
        for (int value : values) {
            bytes.add(value & 0xFF);
        }
        return this;
    }

    Shape u2(int... values) {
        for (int value : values) {
            u1(value >> 8, value);
        }
        return this;
    }

    Shape u4(int... values) {
        for (int value : values) {
            u2(value >> 16, value);
        }
        return this;
    }

    Shape letters(String letters) {
        for (int i = 0; i < letters.length(); i++) {
            u1(letters.charAt(i));
        }
        return this;
    }

    Shape text(String letters) {
        return u1(1).u2(letters.length()).letters(letters);
    }

    Shape all(Shape other) {
        bytes.addAll(other.bytes);
        return this;
    }

    Shape mark() {
        mark = bytes.size();
        return this;
    }

    int marked() {
        return mark;
    }

    int size() {
        return bytes.size();
    }

    byte[] toBytes() {
        byte[] copy = new byte[bytes.size()];
        for (int i = 0; i < copy.length; i++) {
            copy[i] = (byte) (int) bytes.get(i);
        }
        return copy;
    }

    Shape without(int last) {
        for (int i = 0; i < last; i++) {
            bytes.remove(bytes.size() - 1);
        }
        return this;
    }

    /** A new object with these bytes, in as few calls as can be. */
    ClassShape load() {
        ClassShape x = new ClassShape();
        int i = 0;
        for (; i + 4 <= bytes.size(); i += 4) {
            x.put(4, bytes.get(i) << 24 | bytes.get(i + 1) << 16 | bytes.get(i + 2) << 8 | bytes.get(i + 3));
        }
        for (; i < bytes.size(); i++) {
            x.put(1, bytes.get(i));
        }
        return x;
    }

    /** Magic, versions and the pool's count; its entries are to follow. */
    static Shape head(int count) {
        return new Shape().u4(MAGIC).u2(0, 52, count);
    }

    // The numbers in the pool of withPool.
    static final int A = 1;
    static final int CLASS_A = 2;
    static final int M = 3;
    static final int TO_VOID = 4;
    static final int CODE = 5;
    static final int I = 6;
    static final int FIVE = 7;
    static final int PAIR = 8;
    static final int METHOD = 9;
    static final int STRING = 10;
    static final int LONG = 11;
    static final int SECOND_OF_LONG = 12;
    static final int CONSTANT_VALUE = 13;
    static final int J = 14;
    static final int CLASS_M = 15;
    static final int COUNT = 16;

    /** A pool with one of each kind. */
    static Shape withPool() {
        return head(COUNT).text("A").u1(7).u2(A).text("m").text("()V").text("Code").text("I").u1(3).u4(5)
            .u1(12).u2(M, TO_VOID).u1(10).u2(CLASS_A, PAIR).u1(8).u2(A).u1(5).u4(0, 9)
            .text("ConstantValue").text("J").u1(7).u2(M);
    }

    /** A class without interfaces up to its number of fields, which is to follow. */
    static Shape toFields() {
        return withPool().u2(1, CLASS_A, CLASS_A, 0);
    }

    /** A class without fields up to its number of methods, which is to follow. */
    static Shape toMethods() {
        return toFields().u2(0);
    }

    /** A class whose pool is the given entries and whose one field is to follow; CLASS must be number 2. */
    static Shape toFieldWith(int count, Shape entries) {
        return head(count).text("A").u1(7).u2(1).all(entries).u2(0, 2, 2, 0, 1);
    }

    /** The bytes of a CODE: two locals, these INSTRUCTIONS, no handlers and no attributes. */
    static Shape code(Shape instructions) {
        return new Shape().u2(1, 2).u4(instructions.size()).all(instructions).u2(0, 0);
    }

    /** A class whose one method has this CODE. */
    static Shape withCode(Shape code) {
        return toMethods().u2(1, 0, M, TO_VOID, 1, CODE).u4(code.size()).all(code).u2(0);
    }

    /** The place of the first instruction in withCode. */
    static int instructionsStart() {
        return toMethods().u2(1, 0, M, TO_VOID, 1, CODE).u4(0).u2(1, 2).u4(0).size();
    }

    static Shape withInstructions(Shape instructions) {
        return withCode(code(instructions));
    }
}
