/** Promises 8, 9 and 12: the RULES 1 to 28 one by one, with their places and edges, and what is read. */
public final class RulesTest {
    private static final Checks checks = new Checks();

    public static void main(String[] args) {
        everyBeginning();
        head();
        poolEntries();
        characters();
        references();
        namesInPool();
        typesInPool();
        classFlags();
        classNumbers();
        fieldHeads();
        lettersBehind();
        fieldTypes();
        sameFields();
        manyFields();
        constantValues();
        attributes();
        methodHeads();
        secondCode();
        codeEnds();
        codeLength();
        missingCode();
        operations();
        operands();
        tables();
        jumps();
        lastInstruction();
        handlers();
        behind();
        whatIsRead();
        checks.finish("RulesTest");
    }

    private static Shape bytes(int... values) {
        return new Shape().u1(values);
    }

    /** A right class that has something of everything. */
    private static Shape whole() {
        Shape code = new Shape().u2(1, 2).u4(3).u1(87, 3, 172).u2(1, 0, 3, 1, Shape.CLASS_A)
            .u2(1, Shape.A).u4(1).u1(0);
        return Shape.withPool().u2(1, Shape.CLASS_A, Shape.CLASS_A, 2, Shape.CLASS_M, Shape.CLASS_A)
            .u2(1, 0x12, Shape.M, Shape.I, 2, Shape.CONSTANT_VALUE).u4(2).u2(Shape.FIVE, Shape.A).u4(0)
            .u2(2, 0, Shape.M, Shape.TO_VOID, 1, Shape.CODE).u4(code.size()).all(code)
            .u2(0x400, Shape.A, Shape.TO_VOID, 0)
            .u2(1, Shape.M).u4(2).u1(1, 2);
    }

    private static void everyBeginning() {
        checks.right("a whole class", whole());
        int length = whole().size();
        for (int left = 0; left < length; left++) {
            // All numbers of a right class are right, so only a byte that is not there can stop the reading.
            checks.judged("the first " + left + " bytes", whole().without(length - left), 1, left);
        }
        checks.judged("one byte more", whole().u1(0), 28, length);
    }

    private static void head() {
        checks.judged("another magic", new Shape().u4(0xCAFEBABF), 2, 0);
        checks.judged("three bytes of another magic", bytes(0, 0, 0), 1, 3);
        int[][] majors = {{44, 3}, {45, 1}, {69, 1}, {70, 3}, {0, 3}, {0xFFFF, 3}, {0x0134, 3}};
        for (int[] m : majors) {
            checks.judged("major " + m[0], new Shape().u4(Shape.MAGIC).u2(9, m[0]), m[1], m[1] == 3 ? 6 : 8);
        }
        checks.judged("a minor is not looked at", new Shape().u4(Shape.MAGIC).u2(0xFFFF, 52, 1), 1, 10);
        checks.judged("pool of 0", Shape.head(0), 4, 8);
        checks.judged("pool of 0 with more behind", Shape.head(0).u4(0, 0), 4, 8);
        checks.judged("pool of 1", Shape.head(1), 1, 10);
    }

    private static void poolEntries() {
        int[] tags = {0, 2, 4, 6, 9, 11, 13, 15, 16, 18, 255};
        for (int tag : tags) {
            checks.judged("tag " + tag, Shape.head(2).u1(tag), 5, 10);
        }
        checks.judged("second tag", Shape.head(3).text("ab").u1(2), 5, 15);
        int[][] sizes = {{1, 2}, {3, 4}, {5, 8}, {7, 2}, {8, 2}, {10, 4}, {12, 4}};
        for (int[] s : sizes) {
            checks.judged("tag " + s[0] + " cut off", Shape.head(4).u1(s[0]).u1(new int[s[1] - 1]), 1, 10 + s[1]);
            checks.judged("tag " + s[0] + " whole", Shape.head(4).u1(s[0]).u1(new int[s[1]]).u1(2), 5, 11 + s[1]);
            checks.tallies("tag " + s[0] + " cut off", Shape.head(4).u1(s[0]).u1(new int[s[1] - 1]), 0);
            checks.tallies("tag " + s[0] + " whole", Shape.head(4).u1(s[0]).u1(new int[s[1]]).u1(2),
                s[0] == 5 ? 2 : 1);
        }
        checks.judged("text cut off", Shape.head(2).u1(1).u2(3).letters("ab"), 1, 15);
        checks.judged("a LONG as last of its numbers", Shape.head(3).u1(5).u4(0, 0), 1, 19);
        checks.judged("a LONG without second number", Shape.head(2).u1(5).u4(0, 0), 7, 10);
        checks.judged("a LONG cut off without second number", Shape.head(2).u1(5).u4(0).u1(0), 1, 16);
        checks.tallies("a LONG without second number", Shape.head(2).u1(5).u4(0, 0), 1);
        checks.tallies("a LONG without second number behind another", Shape.head(4).u1(5).u4(0, 0).u1(5).u4(0, 0), 3);
        checks.judged("a LONG behind another", Shape.head(4).u1(5).u4(0, 0).u1(5).u4(0, 0), 7, 19);
        checks.judged("a pool of 65535", Shape.head(65535).u1(3).u4(0), 1, 15);
        for (int count : new int[] {131, 132, 65535}) {
            Shape most = Shape.head(count);
            for (int i = 0; i < 130; i++) {
                most.text("");
            }
            checks.judged("130 entries of " + count, most, 1, 400);
            checks.tallies("130 entries of " + count, most, 130);
        }
        Shape longs = Shape.head(131);
        for (int i = 0; i < 43; i++) {
            longs.u1(5).u4(0, 0);
        }
        checks.judged("43 LONGs", longs.text(""), 1, 400);
        checks.tallies("43 LONGs", longs, 87);
    }

    private static void characters() {
        String[] right = {"", "\u0001\u007f", "\u00c0\u0080", "\u00df\u00bf", "\u00e0\u0080\u0080",
            "\u00ef\u00bf\u00bf", "a\u00c2\u00a9b"};
        for (String text : right) {
            checks.judged("characters of length " + text.length(), Shape.head(2).text(text), 1, 13 + text.length());
        }
        Object[][] wrong = {{"\0", 0}, {"a\0", 1}, {"\u0080", 0}, {"\u00bf", 0}, {"\u00bf\u0080", 0}, {"\u00f0\u0080\u0080\u0080", 0},
            {"\u00ff", 0}, {"\u00c0", 0}, {"a\u00c0", 1}, {"\u00c0a", 0}, {"\u00c0\u00c0", 0}, {"\u00c0\u007f", 0},
            {"\u00e0\u0080", 0}, {"\u00e0", 0}, {"\u00e0\u0080a", 0}, {"\u00e0a\u0080", 0}, {"ab\u00e0\u00bf\u00c0", 2},
            {"\u00c2\u00a9\u00a9", 2}, {"\u00e0\u0080\u0080\u0080", 3}};
        for (Object[] w : wrong) {
            Shape shape = Shape.head(2).text((String) w[0]);
            checks.judged("wrong character at " + w[1], shape, 6, 13 + (Integer) w[1]);
            checks.tallies("wrong character at " + w[1], shape, 0);
        }
        checks.judged("a character over the TEXT's end", Shape.head(2).text("\u00c0").u1(0x80), 6, 13);
        checks.judged("a wrong character in a TEXT cut off", Shape.head(2).u1(1).u2(3).u1(0, 0), 1, 15);
    }

    private static void references() {
        // Numbers: 1 TEXT, 2 CLASS, 3 PAIR, 4 and 5 LONG, 6 what is asked.
        int tag = pool6().size();
        int[] noTexts = {0, 2, 3, 4, 5, 6, 7, 65535};
        for (int number : noTexts) {
            checks.judged("CLASS of " + number, pool6().u1(7).u2(number), 8, tag);
            checks.judged("STRING of " + number, pool6().u1(8).u2(number), 8, tag);
            checks.judged("PAIR of first " + number, pool6().u1(12).u2(number, 1), 8, tag);
            checks.judged("PAIR of second " + number, pool6().u1(12).u2(1, number), 8, tag);
        }
        for (int number : new int[] {0, 1, 3, 4, 5, 6, 7, 65535}) {
            checks.judged("METHOD of class " + number, pool6().u1(10).u2(number, 3), 8, tag);
        }
        for (int number : new int[] {0, 1, 2, 4, 5, 6, 7, 65535}) {
            checks.judged("METHOD of pair " + number, pool6().u1(10).u2(2, number), 8, tag);
        }
        checks.judged("METHOD right", pool6().u1(10).u2(2, 3), 1, tag + 5);
        checks.judged("STRING right", pool6().u1(8).u2(1), 1, tag + 3);
        // RULE 8 of all entries comes before RULE 9 of any.
        checks.judged("8 before 9", Shape.head(4).text("a.b").u1(7).u2(1).u1(8).u2(2), 8, 19);
        checks.judged("an entry that comes later", Shape.head(3).u1(7).u2(2).text("a"), 1, 17);
        checks.judged("the first entry", Shape.head(3).u1(8).u2(1).text("a"), 8, 10);
        checks.judged("the first entry's name", Shape.head(3).u1(7).u2(2).text("/"), 9, 10);
    }

    private static Shape pool6() {
        // "()V" is a CLASS NAME, a MEMBER NAME and a METHOD TYPE.
        return Shape.head(7).text("()V").u1(7).u2(1).u1(12).u2(1, 1).u1(5).u4(0, 0);
    }

    private static Shape classOf(String name) {
        return Shape.head(3).text(name).u1(7).u2(1);
    }

    private static Shape pairOf(String name, String type) {
        return Shape.head(4).text(name).text(type).u1(12).u2(1, 2);
    }

    private static void namesInPool() {
        for (String name : new String[] {"a", "a/b", "a/b/c", "<", "a>", "(", "\u00c2\u00a9", "V", "<init>", "]", ":"}) {
            Shape shape = classOf(name);
            checks.judged("CLASS NAME " + name, shape, 1, shape.size());
        }
        for (String name : new String[] {"", "/", "a/", "/a", "a//b", "a.b", "a;", "[a", "[I", "a/b.", "a/[", "LA;"}) {
            checks.judged("no CLASS NAME " + name, classOf(name), 9, 13 + name.length());
        }
        for (String name : new String[] {"a", "<init>", "<clinit>", "(", "init", "\u00c2\u00a9"}) {
            Shape shape = pairOf(name, "()V");
            checks.judged("MEMBER NAME " + name, shape, 1, shape.size());
        }
        String[] wrong = {"", "<", ">", "<init", "init>", "<init>a", "<Init>", "<clinit", "<clinits>", "a<b", "a>b",
            "a/b", "a.b", "a;b", "a[b", "/"};
        for (String name : wrong) {
            checks.judged("no MEMBER NAME " + name, pairOf(name, "()V"), 9, 13 + name.length() + 6);
        }
        checks.judged("9 before 10", pairOf("", "V"), 9, 17);
        checks.judged("9 of the first", Shape.head(5).text("a/").u1(7).u2(1).u1(12).u2(1, 1).u1(7).u2(1), 9, 15);
    }

    private static void typesInPool() {
        String[] right = {"()V", "()I", "(I)V", "(BCDFIJSZ)Z", "(La;)V", "(La/b;[[I)[[La;", "(La)b;)V", "(L(;)LV;", "()[J",
            "([La;[[B)D", "(L<;)V"};
        for (String type : right) {
            Shape shape = pairOf("a", type);
            checks.judged("METHOD TYPE " + type, shape, 1, shape.size());
        }
        String[] wrong = {"", "V", "(", ")", "()", "()VV", "()IV", "()VI", "(V)V", "()[V", "(I", "(I)", "(L;)V", "(La)V",
            "(La;)", "(La", "I", "a()V", "()La", "()L;", "()La/;", "(La//b;)V", "([)V", "()[", "(X)V", "()X", "()V ",
            "(()V", "())V", "(La.b;)V", "(L[I;)V"};
        for (String type : wrong) {
            checks.judged("no METHOD TYPE " + type, pairOf("a", type), 10, 14 + 3 + type.length());
        }
        String many = "[".repeat(255);
        Shape most = pairOf("a", "(" + many + "I)V");
        checks.judged("METHOD TYPE with 255 [", most, 1, most.size());
        checks.judged("METHOD TYPE with 256 [", pairOf("a", "([" + many + "I)V"), 10, 14 + 3 + 260);
        Shape back = pairOf("a", "()" + many + "I");
        checks.judged("METHOD TYPE that answers 255 [", back, 1, back.size());
        checks.judged("METHOD TYPE that answers 256 [", pairOf("a", "()[" + many + "I"), 10, 14 + 3 + 259);
    }

    private static void classFlags() {
        int place = Shape.withPool().size();
        for (int flags : new int[] {0, 1, 0x10, 0x400, 0x600, 0x601, 0xF9EF, 0xFFEF}) {
            checks.right("flags " + flags, Shape.withPool().u2(flags, 2, 2, 0, 0, 0, 0));
        }
        for (int flags : new int[] {0x200, 0x210, 0x410, 0x610, 0xFFFF, 0x0201}) {
            checks.judged("flags " + flags, Shape.withPool().u2(flags), 11, place);
        }
    }

    private static void classNumbers() {
        int place = Shape.withPool().size();
        for (int number : new int[] {0, Shape.A, Shape.FIVE, Shape.METHOD, Shape.LONG, Shape.SECOND_OF_LONG, 16, 65535}) {
            checks.judged("this " + number, Shape.withPool().u2(0, number), 12, place + 2);
            checks.judged("super " + number, Shape.withPool().u2(0, 2, number), 12, place + 4);
            checks.judged("interface " + number, Shape.withPool().u2(0, 2, 2, 2, 2, number), 12, place + 10);
        }
        checks.judged("an interface twice", Shape.withPool().u2(0, 2, 2, 3, 2, 15, 2), 13, place + 12);
        checks.judged("an interface twice at the end", Shape.withPool().u2(0, 2, 2, 3, 2, 15, 15), 13, place + 12);
        checks.judged("an interface twice at once", Shape.withPool().u2(0, 2, 2, 3, 2, 2, 0), 13, place + 10);
        checks.right("two interfaces", Shape.withPool().u2(0, 2, 2, 2, 2, 15, 0, 0, 0));
        checks.judged("interfaces that are not there", Shape.withPool().u2(0, 2, 2, 2, 2), 1, place + 10);
        // Two CLASSes of one name have two numbers, which is all that RULE 13 looks at.
        checks.right("two of one name", Shape.head(4).text("A").u1(7).u2(1).u1(7).u2(1).u2(0, 2, 2, 2, 2, 3, 0, 0, 0));
    }

    private static Shape oneField(int flags, int name, int type) {
        return Shape.toFields().u2(1, flags, name, type, 0, 0, 0);
    }

    private static void fieldHeads() {
        int place = Shape.toFields().size() + 2;
        for (int flags : new int[] {0, 1, 2, 4, 0x10, 0x40, 0x11, 0x42, 0xFFBC, 0xFFE9}) {
            checks.right("field flags " + flags, oneField(flags, Shape.M, Shape.I));
        }
        for (int flags : new int[] {3, 5, 6, 7, 0x50, 0x51, 0xFFFF}) {
            checks.judged("field flags " + flags, Shape.toFields().u2(1, flags), 14, place);
        }
        for (int number : new int[] {0, Shape.CLASS_A, Shape.FIVE, Shape.LONG, Shape.SECOND_OF_LONG, 16, 65535}) {
            checks.judged("field name " + number, Shape.toFields().u2(1, 0, number), 15, place + 2);
            checks.judged("field type " + number, Shape.toFields().u2(1, 0, Shape.M, number), 16, place + 4);
        }
        for (String name : new String[] {"<init>", "<a", "a>", "(", "a b"}) {
            checks.right("field name " + name, fieldOf(name, "I"));
        }
        for (String name : new String[] {"", "a.b", "a/b", "a;", "[a", "a["}) {
            Shape shape = fieldOf(name, "I");
            checks.judged("field name " + name, shape, 15, shape.marked() + 2);
        }
    }

    /** The byte behind a TEXT is not its own: here it is the class's flags, of which each could break the name. */
    private static void lettersBehind() {
        Shape name = Shape.head(4).text("A").u1(7).u2(1).text("a").u2(0x2F00, 2, 2, 0, 1, 0, 3);
        checks.judged("a FIELD NAME before /", name, 1, name.size());
        Shape member = Shape.head(4).text("A").u1(7).u2(1).text("a").u2(0x3C00, 2, 2, 0, 0, 1, 0, 3);
        checks.judged("a MEMBER NAME before <", member, 1, member.size());
        Shape type = Shape.head(5).text("A").u1(7).u2(1).text("a").text("[").u2(0x4900, 2, 2, 0, 1, 0, 3).mark().u2(4);
        checks.judged("a [ before I", type, 16, type.marked());
        Shape empty = Shape.head(4).text("A").u1(7).u2(1).text("").u2(0x2800, 2, 2, 0, 0, 1, 0).mark().u2(3);
        checks.judged("no MEMBER NAME before (", empty, 15, empty.marked());
    }

    /** A class with one field; the mark is its flags. */
    private static Shape fieldOf(String name, String type) {
        return Shape.toFieldWith(5, new Shape().text(name).text(type)).mark().u2(0, 3, 4, 0, 0, 0);
    }

    private static void fieldTypes() {
        String[] right = {"B", "C", "D", "F", "I", "J", "S", "Z", "La;", "La/b;", "[I", "[[[La;", "L<;", "[".repeat(255) + "I"};
        for (String type : right) {
            checks.right("field type " + type, fieldOf("a", type));
            checks.tallies("field type " + type, fieldOf("a", type), 4, 1, 0, 0, 0, 0, type.lastIndexOf('[') + 1);
        }
        String[] wrong = {"", "V", "[V", "[", "II", "I[", "L;", "La", "La;;", "La;I", "La.b;", "L/a;", "La/;", "L[I;", "X", "i",
            "()V", "[".repeat(256) + "I"};
        for (String type : wrong) {
            Shape shape = fieldOf("a", type);
            checks.judged("field type " + type, shape, 16, shape.marked() + 4);
            checks.tallies("field type " + type, shape, 4, 0, 0, 0, 0, 0, 0);
        }
    }

    private static void sameFields() {
        // The INT between them gives the two TEXTs "I" different bytes behind, and so does the end to two "a".
        Shape entries = new Shape().text("a").text("I").text("a").text("I").u1(3).u4(0).text("[[I").text("b").text("a");
        Shape start = Shape.head(11).text("A").u1(7).u2(1).all(entries).u2(0, 2, 2, 0);
        Shape same = new Shape().all(start).u2(2, 0, 3, 4, 0).mark().u2(0, 5, 6, 0, 0, 0);
        checks.judged("the same two TEXTs by their bytes", same, 17, same.marked() + 2);
        Shape last = new Shape().all(start).u2(2, 0, 3, 4, 0).mark().u2(0, 10, 4, 0, 0, 0);
        checks.judged("the same name by its bytes", last, 17, last.marked() + 2);
        Shape third = new Shape().all(start).u2(3, 0, 3, 4, 0, 0, 9, 4, 0).mark().u2(0, 3, 4);
        checks.judged("the same as the first", third, 17, third.marked() + 2);
        checks.right("another type", new Shape().all(start).u2(2, 0, 3, 4, 0, 0, 5, 8, 0, 0, 0));
        checks.right("another name", new Shape().all(start).u2(2, 0, 3, 4, 0, 0, 9, 6, 0, 0, 0));
        Shape brackets = new Shape().all(start).u2(3, 0, 3, 8, 0, 0, 3, 4, 0, 0, 5, 8);
        checks.tallies("[ of fields before RULE 17", brackets, 10, 2, 0, 0, 0, 0, 2);
        Shape counted = new Shape().all(start).u2(2, 0, 3, 8, 0, 0, 5, 8);
        checks.tallies("[ of a field with RULE 17", counted, 10, 1, 0, 0, 0, 0, 2);
    }

    private static void manyFields() {
        // Six names and seven types of one letter are good for 42 fields.
        Shape shape = Shape.head(14).text("I").u1(7).u2(1);
        for (String text : new String[] {"J", "S", "B", "C", "Z", "D", "a", "b", "c", "d", "e"}) {
            shape.text(text);
        }
        shape.u2(0, 2, 2, 0, 40);
        for (int i = 0; i < 39; i++) {
            shape.u2(0, 3 + i / 6 + 4, 3 + i % 6, 0);
        }
        Shape right = copy(shape).u2(0, 3, 1, 0, 0, 0);
        checks.right("40 fields", right);
        checks.tallies("40 fields", right, 13, 40);
        Shape same = copy(shape).mark().u2(0, 3 + 4, 3);
        checks.judged("the 40th is the first", same, 17, same.marked() + 2);
        checks.tallies("the 40th is the first", same, 13, 39);
    }

    private static Shape constant(int type, int length, int number) {
        return Shape.toFields().u2(1, 0, Shape.M, type, 1).mark().u2(Shape.CONSTANT_VALUE).u4(length).u2(number);
    }

    private static void constantValues() {
        checks.right("ConstantValue of I", constant(Shape.I, 2, Shape.FIVE).u2(0, 0));
        checks.right("ConstantValue of J", constant(Shape.J, 2, Shape.LONG).u2(0, 0));
        int place = constant(Shape.I, 2, 0).marked();
        for (int number : new int[] {0, Shape.A, Shape.LONG, Shape.SECOND_OF_LONG, Shape.STRING, 16, 65535}) {
            checks.judged("ConstantValue of I: " + number, constant(Shape.I, 2, number), 18, place);
        }
        for (int number : new int[] {0, Shape.A, Shape.FIVE, Shape.SECOND_OF_LONG, Shape.STRING, 16, 65535}) {
            checks.judged("ConstantValue of J: " + number, constant(Shape.J, 2, number), 18, place);
        }
        for (int length : new int[] {0, 1, 3}) {
            checks.judged("ConstantValue of length " + length, constant(Shape.I, length, Shape.FIVE).u1(0), 18, place);
        }
        checks.judged("ConstantValue that is not there", constant(Shape.I, 3, 0), 1, place + 8);
        checks.right("two ConstantValues", Shape.toFields().u2(1, 0, Shape.M, Shape.I, 2)
            .u2(Shape.CONSTANT_VALUE).u4(2).u2(Shape.FIVE, Shape.CONSTANT_VALUE).u4(2).u2(Shape.FIVE).u2(0, 0));
        for (String type : new String[] {"S", "B", "C", "Z", "I"}) {
            checks.right("ConstantValue of " + type, constantOf(type).u2(0, 0));
        }
        for (String type : new String[] {"D", "F", "J", "[I", "LI;", "[J"}) {
            Shape shape = constantOf(type);
            checks.judged("ConstantValue of " + type, shape, 18, shape.marked());
            checks.tallies("ConstantValue of " + type, shape, 6, 0, 0, 0, 0, 0);
        }
        checks.right("Code of a field", Shape.toFields().u2(1, 0, Shape.M, Shape.I, 2)
            .u2(Shape.CODE).u4(0).u2(Shape.CODE).u4(1).u1(9).u2(0, 0));
    }

    /** A field of this type whose ConstantValue, at the mark, is an INT. */
    private static Shape constantOf(String type) {
        return Shape.toFieldWith(7, new Shape().text("a").text(type).text("ConstantValue").u1(3).u4(7))
            .u2(0, 3, 4, 1).mark().u2(5).u4(2).u2(6);
    }

    private static void attributes() {
        Shape[] starts = {Shape.toFields().u2(1, 0, Shape.M, Shape.I), Shape.toMethods().u2(1, 0, Shape.M, Shape.TO_VOID),
            Shape.toMethods().u2(0)};
        for (Shape start : starts) {
            int place = start.size() + 2;
            for (int number : new int[] {0, Shape.CLASS_A, Shape.SECOND_OF_LONG, 16, 65535}) {
                checks.judged("attribute name " + number, copy(start).u2(1, number), 15, place);
            }
            checks.judged("attribute of 2^31", copy(start).u2(1, Shape.A).u4(0x80000000).u4(0, 0), 1, place + 14);
            checks.judged("attribute of 2^32 - 1", copy(start).u2(1, Shape.A).u4(-1).u4(0, 0), 1, place + 14);
            checks.judged("attribute of 2^31 - 1", copy(start).u2(1, Shape.A).u4(0x7FFFFFFF).u4(0, 0), 1, place + 14);
            checks.judged("attribute cut off", copy(start).u2(1, Shape.A).u4(3).u2(0), 1, place + 8);
            checks.judged("second attribute's name", copy(start).u2(2, Shape.A).u4(3).u1(1, 2, 3).u2(0), 15, place + 9);
            checks.tallies("second attribute's name", copy(start).u2(2, Shape.A).u4(3).u1(1, 2, 3).u2(0),
                15, 0, 0, 0, 0, 1);
        }
        checks.judged("Code of 2^31", starts[1].u2(1, Shape.CODE).u4(0x80000000), 1, starts[1].size());
        checks.right("attributes of the class", Shape.toMethods().u2(0, 3, Shape.CODE).u4(0)
            .u2(Shape.CODE).u4(0).u2(Shape.CONSTANT_VALUE).u4(1).u1(9));
    }

    private static Shape copy(Shape shape) {
        return new Shape().all(shape);
    }

    private static void methodHeads() {
        int place = Shape.toMethods().size() + 2;
        for (int flags : new int[] {0x400, 0x401, 0x404, 0x100, 0x102, 0x118, 0xFFE4, 0x440}) {
            checks.right("method flags " + flags, Shape.toMethods().u2(1, flags, Shape.M, Shape.TO_VOID, 0, 0));
        }
        for (int flags : new int[] {3, 5, 6, 7, 0x410, 0x408, 0x402, 0x405, 0x41A, 0xFFFF}) {
            checks.judged("method flags " + flags, Shape.toMethods().u2(1, flags), 14, place);
        }
        for (int flags : new int[] {0, 1, 2, 4, 0x1A, 0x50}) {
            checks.judged("method flags " + flags, Shape.toMethods().u2(1, flags), 1, place + 2);
        }
        for (int number : new int[] {0, Shape.CLASS_A, Shape.FIVE, Shape.SECOND_OF_LONG, 16, 65535}) {
            checks.judged("method name " + number, Shape.toMethods().u2(1, 0, number), 15, place + 2);
            checks.judged("method type " + number, Shape.toMethods().u2(1, 0, Shape.M, number), 16, place + 4);
        }
        checks.judged("method type I", Shape.toMethods().u2(1, 0, Shape.M, Shape.I), 16, place + 4);
        for (String name : new String[] {"<init>", "<clinit>", "a"}) {
            checks.right("method name " + name, methodOf(name, "(I)V"));
        }
        for (String name : new String[] {"<init", "a<", "", "a/b"}) {
            Shape shape = methodOf(name, "(I)V");
            checks.judged("method name " + name, shape, 15, shape.marked() + 2);
        }
        Shape same = Shape.toMethods().u2(2, 0x400, Shape.M, Shape.TO_VOID, 0).mark().u2(0x400, Shape.M, Shape.TO_VOID);
        checks.judged("the same method", same, 17, same.marked() + 2);
        checks.tallies("the same method", same, 15, 0, 1);
        checks.right("another method", Shape.toMethods().u2(2, 0x400, Shape.M, Shape.TO_VOID, 0)
            .u2(0x400, Shape.A, Shape.TO_VOID, 0, 0));
        // A field of the same two TEXTs can't be, but one of the same name is no earlier method.
        checks.right("a field of the name", Shape.toFields().u2(1, 0, Shape.M, Shape.I, 0)
            .u2(1, 0x400, Shape.M, Shape.TO_VOID, 0, 0));
    }

    /** A class with one abstract method; the mark is its flags. */
    private static Shape methodOf(String name, String type) {
        return Shape.head(5).text("A").u1(7).u2(1).text(name).text(type).u2(0, 2, 2, 0, 0, 1).mark().u2(0x400, 3, 4, 0, 0);
    }

    private static void secondCode() {
        Shape code = Shape.code(bytes(177));
        Shape shape = Shape.toMethods().u2(1, 0, Shape.M, Shape.TO_VOID, 2, Shape.CODE).u4(code.size()).all(code)
            .mark().u2(Shape.CODE);
        checks.judged("a second Code, before its length", shape, 19, shape.marked());
        checks.tallies("a second Code", shape, 15, 0, 0, 1, 0, 1);
        Shape other = Shape.toMethods().u2(1, 0, Shape.M, Shape.TO_VOID, 2, Shape.CONSTANT_VALUE).u4(1).u1(0)
            .u2(Shape.CODE).u4(code.size()).all(code).u2(0);
        checks.right("Code behind another attribute", other);
        Shape two = Shape.toMethods().u2(2, 0, Shape.M, Shape.TO_VOID, 1, Shape.CODE).u4(code.size()).all(code)
            .u2(0, Shape.A, Shape.TO_VOID, 1, Shape.CODE).u4(code.size()).all(code).u2(0);
        checks.right("Code of two methods", two);
    }

    private static Shape codeOfLength(int length, Shape code) {
        return Shape.toMethods().u2(1, 0, Shape.M, Shape.TO_VOID, 1).mark().u2(Shape.CODE).u4(length).all(code).u2(0);
    }

    private static void codeEnds() {
        Shape code = Shape.code(bytes(177)).without(2).u2(1, Shape.A).u4(2).u1(7, 7);
        int name = codeOfLength(code.size(), code).marked();
        checks.right("a CODE with an attribute", codeOfLength(code.size(), code));
        for (int length = 0; length < code.size(); length++) {
            checks.judged("CODE of length " + length, codeOfLength(length, code), 20, name);
        }
        checks.judged("CODE that ends before", codeOfLength(code.size() + 1, copy(code).u1(0)), 20, name);
        checks.judged("CODE that is not there", codeOfLength(code.size() + 9, code), 1,
            codeOfLength(0, code).size());
        Shape huge = Shape.code(bytes(177)).without(2).u2(1, Shape.A).u4(0x80000000);
        checks.judged("an attribute of 2^31 in it", codeOfLength(huge.size(), huge), 20, name);
        Shape beyond = Shape.code(bytes(177)).without(2).u2(1, Shape.A).u4(1);
        checks.judged("an attribute beyond it", codeOfLength(beyond.size(), beyond), 20, name);
        Shape second = Shape.code(bytes(177)).without(2).u2(2, Shape.A).u4(0).u2(Shape.A).u4(1);
        checks.judged("a second attribute beyond it", codeOfLength(second.size(), second), 20, name);
        checks.tallies("a second attribute beyond it", codeOfLength(second.size(), second), 15, 0, 0, 0, 0, 1);
        Shape unnamed = Shape.code(bytes(177)).without(2).u2(1, Shape.CLASS_A);
        checks.judged("an attribute in it without name", codeOfLength(unnamed.size(), unnamed), 15, name + 6 + 13);
        Shape handlers = Shape.code(bytes(177)).without(4).u2(65535, 0);
        checks.judged("65535 handlers", codeOfLength(handlers.size(), handlers), 20, name);
        Shape bad = Shape.code(bytes(2)).u1(0);
        checks.judged("20 before 23", codeOfLength(bad.size(), bad), 20, name);
        Shape inner = Shape.code(bytes(177)).without(2).u2(2, Shape.CODE).u4(0).u2(Shape.CODE).u4(0);
        checks.right("Codes in a CODE are passed over", codeOfLength(inner.size(), inner));
    }

    private static void codeLength() {
        int place = Shape.instructionsStart() - 4;
        for (int length : new int[] {0, 65, 0x80000000, -1, 0x7FFFFFFF, 0x00010001}) {
            checks.judged("code length " + length, Shape.withCode(new Shape().u2(1, 2).u4(length)), 22, place);
        }
        checks.right("code of 64", Shape.withInstructions(bytes(new int[63]).u1(177)));
        checks.judged("code of 65", Shape.withInstructions(bytes(new int[64]).u1(177)), 22, place);
        checks.judged("code of 64 that is not there", Shape.withCode(new Shape().u2(1, 2).u4(64)), 20, place - 10);
    }

    private static void missingCode() {
        int place = Shape.toMethods().size() + 2;
        Shape code = Shape.code(bytes(177));
        for (int flags : new int[] {0, 1, 8, 0x1A, 0xFAFC - 4}) {
            checks.judged("no Code, flags " + flags, Shape.toMethods().u2(1, flags, Shape.M, Shape.TO_VOID, 0), 21, place);
        }
        checks.tallies("no Code", Shape.toMethods().u2(1, 0, Shape.M, Shape.TO_VOID, 0), 15, 0, 0, 0);
        for (int flags : new int[] {0x400, 0x100, 0x500}) {
            Shape shape = Shape.toMethods().u2(1, flags, Shape.M, Shape.TO_VOID, 1, Shape.CODE).u4(code.size()).all(code);
            checks.judged("Code, flags " + flags, shape, 21, place);
            checks.tallies("Code, flags " + flags, shape, 15, 0, 0, 1, 0, 1);
        }
        Shape bad = Shape.code(bytes(0));
        checks.judged("26 before 21", Shape.toMethods().u2(1, 0x400, Shape.M, Shape.TO_VOID, 1, Shape.CODE).u4(bad.size())
            .all(bad), 26, place + 22);
    }

    private static int size(int op) {
        switch (op) {
            case 0, 1, 3, 87, 96, 172, 177, 191:
                return 1;
            case 16, 18, 21, 54:
                return 2;
            case 17, 132, 153, 167, 184:
                return 3;
            default:
                return 0;
        }
    }

    /** An instruction whose operands are right: local 1, entry 7 or 9, a jump by 0. */
    private static Shape instruction(int op) {
        Shape shape = bytes(op);
        switch (op) {
            case 18:
                return shape.u1(Shape.FIVE);
            case 184:
                return shape.u2(Shape.METHOD);
            case 153, 167:
                return shape.u2(0);
            default:
                return size(op) == 0 ? shape : shape.u1(1, 1).without(3 - size(op));
        }
    }

    private static void operations() {
        int start = Shape.instructionsStart();
        for (int op = 0; op < 256; op++) {
            if (op == 170 || op == 196) {
                continue;
            }
            Shape whole = bytes(0).all(instruction(op)).u1(177);
            if (size(op) == 0) {
                checks.judged("op " + op, Shape.withInstructions(whole), 23, start + 1);
                continue;
            }
            checks.right("op " + op, Shape.withInstructions(whole));
            checks.tallies("op " + op, Shape.withInstructions(whole), 15, 0, 1, 3, 0, 1);
            if (size(op) > 1) {
                checks.judged("op " + op + " cut off", Shape.withInstructions(whole.without(2)), 23, start + 1);
            }
        }
        for (int op = 0; op < 256; op++) {
            Shape wide = bytes(196, op).u2(1).u2(new int[op == 132 ? 1 : 0]).u1(177);
            boolean right = op == 21 || op == 54 || op == 132;
            checks.judged("196 " + op, Shape.withInstructions(wide), right ? 0 : 23, start);
        }
        checks.judged("196 alone", Shape.withInstructions(bytes(177, 196)), 23, start + 1);
        for (int length = 2; length < 6; length++) {
            Shape cutOff = bytes(196, 132, 0, 1, 0, 0).without(6 - length);
            checks.judged("196 132 of " + length, Shape.withInstructions(cutOff), 23, start);
        }
        checks.judged("196 21 of 3", Shape.withInstructions(bytes(196, 21, 0)), 23, start);
        checks.tallies("196 is one", Shape.withInstructions(bytes(196, 132, 0, 1, 0, 0, 196, 21, 0, 0, 177)), 15, 0, 1, 3);
    }

    private static void operands() {
        int start = Shape.instructionsStart();
        for (int entry = 0; entry < 18; entry++) {
            boolean right = entry == Shape.FIVE || entry == Shape.STRING;
            checks.judged("18 of " + entry, Shape.withInstructions(bytes(0, 18, entry, 177)), right ? 0 : 24, start + 1);
            checks.judged("184 of " + entry, Shape.withInstructions(bytes(0, 184, 0, entry, 177)),
                entry == Shape.METHOD ? 0 : 24, start + 1);
        }
        checks.judged("184 of a great number", Shape.withInstructions(bytes(184, 1, Shape.METHOD, 177)), 24, start);
        for (int local = 0; local < 4; local++) {
            int rule = local < 2 ? 0 : 24;
            checks.judged("21 of " + local, Shape.withInstructions(bytes(21, local, 177)), rule, start);
            checks.judged("54 of " + local, Shape.withInstructions(bytes(54, local, 177)), rule, start);
            checks.judged("132 of " + local, Shape.withInstructions(bytes(132, local, 9, 177)), rule, start);
            checks.judged("196 21 of " + local, Shape.withInstructions(bytes(196, 21, 0, local, 177)), rule, start);
            checks.judged("196 54 of " + local, Shape.withInstructions(bytes(196, 54, 0, local, 177)), rule, start);
            checks.judged("196 132 of " + local, Shape.withInstructions(bytes(196, 132, 0, local, 9, 9, 177)), rule, start);
        }
        checks.judged("196 21 of 256", Shape.withInstructions(bytes(196, 21, 1, 0, 177)), 24, start);
        checks.judged("cut off comes before its local", Shape.withInstructions(bytes(132, 9)), 23, start);
        checks.judged("the first instruction's comes first", Shape.withInstructions(bytes(21, 9, 2)), 24, start);
        checks.judged("24 before 25 of an earlier one", Shape.withInstructions(bytes(167, 0, 1, 21, 9)), 24, start + 3);
        checks.tallies("24", Shape.withInstructions(bytes(0, 21, 9, 177)), 15, 0, 0, 0, 0, 0);
    }

    private static Shape table(int before, int fallback, int low, int high, int... jumps) {
        Shape shape = bytes(new int[before]).u1(170);
        while (shape.size() % 4 != 0) {
            shape.u1(0xEE);
        }
        return shape.u4(fallback, low, high).u4(jumps);
    }

    private static void tables() {
        int start = Shape.instructionsStart();
        for (int before = 0; before < 5; before++) {
            checks.right("170 at " + before, Shape.withInstructions(table(before, 0, 1, 2, -before, 0)));
            Shape lessFirst = table(before, 0, 1, 1, 0).without(1);
            checks.judged("170 cut off at " + before, Shape.withInstructions(lessFirst), 23, start + before);
            for (int left = 1; left < 15; left++) {
                Shape less = table(before, 0, 1, 1, 0);
                checks.judged("170 with " + left + " bytes", Shape.withInstructions(less.without(less.size() - before - left)),
                    23, start + before);
            }
        }
        checks.right("170 with eight jumps", Shape.withInstructions(table(0, 0, 5, 12, 0, 0, 0, 0, 0, 0, 0, 0)));
        checks.judged("170 with nine", Shape.withInstructions(table(0, 0, 5, 13, 0, 0, 0, 0, 0, 0, 0, 0, 0)), 23, start);
        checks.judged("170 with low above high", Shape.withInstructions(table(0, 0, 5, 4, 0)), 23, start);
        checks.right("170 with low below 0", Shape.withInstructions(table(0, 0, -1, 0, 0, 0)));
        checks.judged("170 with signed low above high", Shape.withInstructions(table(0, 0, 0, -1, 0)), 23, start);
        checks.judged("170 of all numbers", Shape.withInstructions(table(0, 0, Integer.MIN_VALUE, Integer.MAX_VALUE, 0)),
            23, start);
        checks.judged("170 where high - low is beyond an int",
            Shape.withInstructions(table(0, 0, Integer.MIN_VALUE, 5, 0, 0)), 23, start);
        checks.right("170 at the greatest", Shape.withInstructions(table(0, 0, Integer.MAX_VALUE, Integer.MAX_VALUE, 0)));
        checks.right("170 at the least", Shape.withInstructions(table(0, 0, Integer.MIN_VALUE, Integer.MIN_VALUE, 0)));
        checks.tallies("170 is one", Shape.withInstructions(table(2, 0, 1, 2, -1, 0)), 15, 0, 1, 3);
        int[] noJumps = {1, 4, 20, 24, -3, Integer.MAX_VALUE, Integer.MIN_VALUE, 0x10000};
        for (int by : noJumps) {
            checks.judged("170 by default " + by, Shape.withInstructions(table(2, by, 1, 2, 0, 0)), 25, start + 2);
            checks.judged("170 by first " + by, Shape.withInstructions(table(2, 0, 1, 2, by, 0)), 25, start + 2);
            checks.judged("170 by last " + by, Shape.withInstructions(table(2, 0, 1, 2, 0, by)), 25, start + 2);
        }
    }

    private static void jumps() {
        int start = Shape.instructionsStart();
        // Instructions at 0, 2, 5 and 8 of nine bytes.
        for (int op : new int[] {153, 167}) {
            for (int by = -7; by < 6; by++) {
                int to = 5 + by;
                boolean right = to == 0 || to == 2 || to == 5 || to == 8;
                Shape shape = bytes(16, 1, 17, 0, 0, op).u2(by).u1(177);
                checks.judged(op + " by " + by, Shape.withInstructions(shape), right ? 0 : 25, start + 5);
            }
        }
        checks.judged("a jump into 196", Shape.withInstructions(bytes(196, 21, 0, 1, 167).u2(-3)), 25, start + 4);
        checks.judged("a jump by 32767", Shape.withInstructions(bytes(167).u2(32767)), 25, start);
        checks.judged("a jump by -32768", Shape.withInstructions(bytes(167).u2(-32768)), 25, start);
        checks.judged("the first wrong jump", Shape.withInstructions(bytes(0, 167, 0, 1, 153, 0, 1, 177)), 25, start + 1);
        checks.judged("25 before 26", Shape.withInstructions(bytes(167, 0, 1, 0)), 25, start);
    }

    private static void lastInstruction() {
        int start = Shape.instructionsStart();
        for (int op : new int[] {0, 1, 3, 87, 96, 16, 17, 18, 21, 54, 132, 153, 184}) {
            checks.judged("last is " + op, Shape.withInstructions(bytes(177).all(instruction(op))), 26, start + 1);
        }
        for (int op : new int[] {167, 172, 177, 191}) {
            checks.right("last is " + op, Shape.withInstructions(bytes(0).all(instruction(op))));
        }
        checks.right("last is 170", Shape.withInstructions(table(1, 0, 0, 0, 0)));
        checks.judged("last is 196", Shape.withInstructions(bytes(177, 196, 21, 0, 0)), 26, start + 1);
        checks.judged("last has a byte 177", Shape.withInstructions(bytes(177, 16, 177)), 26, start + 1);
        checks.tallies("26", Shape.withInstructions(bytes(177, 0)), 15, 0, 0, 0, 0, 0);
    }

    /** Instructions at 0, 2 and 5 of six bytes, and these handlers. */
    private static Shape withHandlers(int... numbers) {
        return Shape.withCode(new Shape().u2(1, 2).u4(6).u1(16, 1, 17, 0, 0, 177).u2(numbers.length / 4).u2(numbers)
            .u2(0));
    }

    private static void handlers() {
        int place = Shape.instructionsStart() + 8;
        int[][] right = {{0, 2, 5, 0}, {0, 6, 0, 0}, {5, 6, 0, Shape.CLASS_M}, {2, 5, 2, Shape.CLASS_A}};
        for (int[] handler : right) {
            checks.right("handler from " + handler[0], withHandlers(handler));
        }
        int[][] wrong = {{1, 2, 5, 0}, {6, 6, 0, 0}, {0, 1, 5, 0}, {0, 7, 5, 0}, {0, 2, 3, 0}, {0, 2, 6, 0}, {2, 2, 0, 0},
            {5, 2, 0, 0}, {0, 0, 0, 0}, {0, 2, 5, 1}, {0, 2, 5, Shape.SECOND_OF_LONG}, {0, 2, 5, 16}, {0, 2, 5, 65535},
            {65535, 2, 5, 0}, {0, 65535, 5, 0}, {0, 2, 65535, 0}, {0, 65534, 0, 0}};
        for (int[] h : wrong) {
            checks.judged("handler " + h[0] + " " + h[1] + " " + h[2] + " " + h[3], withHandlers(h), 27, place);
            checks.tallies("handler " + h[0], withHandlers(h), 15, 0, 0, 0, 0, 0);
        }
        checks.judged("the second handler", withHandlers(0, 2, 5, 0, 0, 6, 6, 0, 1, 1, 1, 1), 27, place + 8);
        checks.right("three handlers", withHandlers(0, 2, 5, 0, 0, 6, 0, 0, 5, 6, 0, 2));
        checks.tallies("three handlers", withHandlers(0, 2, 5, 0, 0, 6, 0, 0, 5, 6, 0, 2), 15, 0, 1, 3, 3, 1);
        checks.judged("26 before 27", Shape.withCode(new Shape().u2(1, 2).u4(1).u1(0).u2(1, 9, 9, 9, 9, 0)), 26,
            Shape.instructionsStart());
    }

    private static void behind() {
        int length = Shape.toMethods().u2(0, 0).size();
        checks.judged("a byte behind", Shape.toMethods().u2(0, 0).u1(0), 28, length);
        checks.judged("many bytes behind", Shape.toMethods().u2(0, 0).u4(1, 2, 3), 28, length);
        Shape most = Shape.toMethods().u2(0, 1, Shape.A).u4(400 - length - 6);
        checks.right("a class of 400 bytes", most.u1(new int[400 - most.size()]));
        checks.due("its length", most.size(), 400);
    }

    private static void whatIsRead() {
        checks.tallies("a whole class", whole(), 15, 1, 2, 3, 1, 5, 0);
        checks.tallies("a whole class with one byte more", whole().u1(0), 15, 1, 2, 3, 1, 5, 0);
        checks.tallies("a whole class with one byte less", whole().without(1), 15, 1, 2, 3, 1, 4, 0);
        checks.tallies("nothing", new Shape(), 0, 0, 0, 0, 0, 0, 0);
        checks.tallies("RULE 8", Shape.head(3).text("a").u1(7).u2(2), 2, 0, 0, 0, 0, 0, 0);
        checks.tallies("RULE 5", Shape.head(3).text("a").u1(9), 1, 0, 0, 0, 0, 0, 0);
        Shape code = new Shape().u2(0, 0).u4(2).u1(0, 177).u2(1, 0, 1, 0, 0).u2(0);
        Shape two = Shape.toMethods().u2(2, 0, Shape.M, Shape.TO_VOID, 1, Shape.CODE).u4(code.size()).all(code)
            .u2(0, Shape.A, Shape.TO_VOID, 1, Shape.CODE).u4(code.size()).all(code).u2(0);
        checks.tallies("two methods", two, 15, 0, 2, 4, 2, 2, 0);
    }
}
