import java.util.ArrayList;
import java.util.HashMap;
import java.util.List;
import java.util.Map;

/** Puts the bytes of a class together; marks tell the places that a test asks for. */
final class Shape {
    static final int MAGIC = 0xCAFEBABE;

    private final List<Integer> bytes = new ArrayList<>();
    private final Map<String, Integer> marks = new HashMap<>();

    Shape u1(int... values) {
        for (int value : values) {
            bytes.add(value & 0xFF);
        }
        return this;
    }

    Shape u2(int... values) {
        for (int value : values) {
            u1(value >> 8, value);
        }
        return this;
    }

    Shape u4(int... values) {
        for (int value : values) {
            u2(value >> 16, value);
        }
        return this;
    }

    Shape letters(String letters) {
        for (int i = 0; i < letters.length(); i++) {
            u1(letters.charAt(i));
        }
        return this;
    }

    Shape text(String letters) {
        return u1(1).u2(letters.length()).letters(letters);
    }

    Shape all(Shape other) {
        bytes.addAll(other.bytes);
        return this;
    }

    Shape copy() {
        Shape copy = new Shape().all(this);
        copy.marks.putAll(marks);
        return copy;
    }

    /** Keeps the place of what is put next. */
    Shape mark(String name) {
        marks.put(name, bytes.size());
        return this;
    }

    int place(String name) {
        return marks.get(name);
    }

    Shape mark() {
        return mark("");
    }

    int marked() {
        return place("");
    }

    int size() {
        return bytes.size();
    }

    byte[] toBytes() {
        byte[] copy = new byte[bytes.size()];
        for (int i = 0; i < copy.length; i++) {
            copy[i] = (byte) (int) bytes.get(i);
        }
        return copy;
    }

    Shape with(int place, int value) {
        bytes.set(place, value & 0xFF);
        return this;
    }

    Shape without(int last) {
        for (int i = 0; i < last; i++) {
            bytes.remove(bytes.size() - 1);
        }
        return this;
    }

    /** A new object with these bytes, in as few calls as can be. */
    ClassShape load() {
        ClassShape x = new ClassShape();
        int i = 0;
        for (; i + 4 <= bytes.size(); i += 4) {
            x.put(4, bytes.get(i) << 24 | bytes.get(i + 1) << 16 | bytes.get(i + 2) << 8 | bytes.get(i + 3));
        }
        for (; i < bytes.size(); i++) {
            x.put(1, bytes.get(i));
        }
        return x;
    }

    /** Magic, versions and the pool's count; its entries are to follow. */
    static Shape head(int count) {
        return new Shape().u4(MAGIC).u2(0, 52, count);
    }

    // The numbers in the pool of withPool.
    static final int A = 1;
    static final int CLASS_A = 2;
    static final int M = 3;
    static final int TO_VOID = 4;
    static final int CODE = 5;
    static final int I = 6;
    static final int FIVE = 7;
    static final int PAIR = 8;
    static final int METHOD = 9;
    static final int STRING = 10;
    static final int LONG = 11;
    static final int SECOND_OF_LONG = 12;
    static final int CONSTANT_VALUE = 13;
    static final int J = 14;
    static final int CLASS_M = 15;
    static final int COUNT = 16;

    // The numbers that are a TEXT's.
    static final List<Integer> TEXTS = List.of(A, M, TO_VOID, CODE, I, CONSTANT_VALUE, J);

    /** A pool with one of each kind; each tag is marked. */
    static Shape withPool() {
        return head(COUNT).tag(A).text("A").tag(CLASS_A).u1(7).u2(A).tag(M).text("m").tag(TO_VOID).text("()V")
            .tag(CODE).text("Code").tag(I).text("I").tag(FIVE).u1(3).u4(5).tag(PAIR).u1(12).u2(M, TO_VOID)
            .tag(METHOD).u1(10).u2(CLASS_A, PAIR).tag(STRING).u1(8).u2(A).tag(LONG).u1(5).u4(0, 9)
            .tag(CONSTANT_VALUE).text("ConstantValue").tag(J).text("J").tag(CLASS_M).u1(7).u2(M);
    }

    private Shape tag(int number) {
        return mark("tag " + number);
    }

    int tagOf(int number) {
        return place("tag " + number);
    }

    /** A right class with something of everything; one other byte is enough to break any of the RULES 2 to 27. */
    static Shape whole() {
        return withPool().mark("flags").u2(1).mark("this").u2(CLASS_A, CLASS_A, 2, CLASS_M).mark("interface").u2(CLASS_A)
            .u2(2).mark("field").u2(0x12, M, I, 2).mark("constant").u2(CONSTANT_VALUE).u4(2).u2(FIVE).u2(A).u4(0)
            .mark("second field").u2(4, A, I, 0)
            .u2(2).mark("method").u2(0, M, TO_VOID, 2).mark("code").u2(CODE).u4(33)
            .u2(1, 2).mark("length").u4(6).mark("load").u1(21, 1).mark("jump").u1(153, 0, 3).mark("return").u1(177)
            .u2(1).mark("handler").u2(0, 6, 5, CLASS_A).u2(1, A).u4(1).u1(0)
            .mark("second attribute").u2(M).u4(1).u1(7)
            .u2(0x400, A, TO_VOID, 0)
            .u2(1, M).u4(2).u1(1, 2);
    }

    /** A class without interfaces up to its number of fields, which is to follow. */
    static Shape toFields() {
        return withPool().u2(1, CLASS_A, CLASS_A, 0);
    }

    /** A class without fields up to its number of methods, which is to follow. */
    static Shape toMethods() {
        return toFields().u2(0);
    }

    /** A class whose pool is the given entries and whose one field is to follow; CLASS must be number 2. */
    static Shape toFieldWith(int count, Shape entries) {
        return head(count).text("A").u1(7).u2(1).all(entries).u2(0, 2, 2, 0, 1);
    }

    /** The bytes of a CODE: two locals, these INSTRUCTIONS, no handlers and no attributes. */
    static Shape code(Shape instructions) {
        return new Shape().u2(1, 2).u4(instructions.size()).all(instructions).u2(0, 0);
    }

    /** A class whose one method has this CODE. */
    static Shape withCode(Shape code) {
        return toMethods().u2(1, 0, M, TO_VOID, 1, CODE).u4(code.size()).all(code).u2(0);
    }

    /** The place of the first instruction in withCode. */
    static int instructionsStart() {
        return toMethods().u2(1, 0, M, TO_VOID, 1, CODE).u4(0).u2(1, 2).u4(0).size();
    }

    static Shape withInstructions(Shape instructions) {
        return withCode(code(instructions));
    }
}
