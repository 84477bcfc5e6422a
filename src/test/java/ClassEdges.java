/** The Terms on the class, its fields and methods (RULES 11 to 21, 28), sentence by sentence, with the edges. */
final class ClassEdges {
    private static final String TERMS = "Terms";
    private static final int[] NUMBERS = {0, 1, 2, 3, 4, 5, 6, 7, 8, 9, 10, 11, 12, 13, 14, 15, 16, 17, 0x0102, 0x8001, 0xFFFF};

    private final Sentences doc;

    ClassEdges(Sentences doc) {
        this.doc = doc;
    }

    void run() {
        classFlags();
        thisAndSuper();
        interfaces();
        sameInterface();
        fieldFlags();
        fieldNameAndType();
        sameField();
        attributeNames();
        attributeBytes();
        constantValues();
        otherAttributes();
        methodFlags();
        methodNameAndType();
        sameMethod();
        placesOfMethods();
        secondCode();
        codeEnds();
        missingCode();
        classAttributes();
        byteBehind();
        noText();
    }

    private static Shape bytes(int... values) {
        return new Shape().u1(values);
    }

    private static boolean isClass(int number) {
        return number == Shape.CLASS_A || number == Shape.CLASS_M;
    }

    private void classFlags() {
        doc.says(TERMS, "U2 flags: with 0x0200 (interface) 0x0400 must be there and 0x0010 not; "
            + "0x0400 and 0x0010 must not both be: RULE 11 (the flags).");
        int place = Shape.withPool().size();
        int[][] cases = {{0, 0}, {0x0010, 0}, {0x0400, 0}, {0x0600, 0}, {0x0200, 11}, {0x0210, 11}, {0x0410, 11}, {0x0610, 11}};
        for (int[] c : cases) {
            for (int others : new int[] {0, 0x0001, 0xF9EF}) {
                int flags = c[0] | others;
                Shape shape = Shape.withPool().u2(flags, Shape.CLASS_A, Shape.CLASS_A, 0, 0, 0, 0);
                doc.judged("flags " + Integer.toHexString(flags), shape, c[1], place);
            }
        }
        doc.judged("before this is read", Shape.withPool().u2(0x0200), 11, place);
        doc.rightSoFar("one byte of them", Shape.withPool().u1(2));
    }

    private void thisAndSuper() {
        doc.says(TERMS, "U2 this, U2 super, each must name a CLASS: RULE 12 (its place).");
        int place = Shape.withPool().size() + 2;
        for (int number : NUMBERS) {
            Shape self = Shape.withPool().u2(0, number);
            doc.judged("this " + number, self, isClass(number) ? 1 : 12, isClass(number) ? self.size() : place);
            Shape parent = Shape.withPool().u2(0, Shape.CLASS_M, number);
            doc.judged("super " + number, parent, isClass(number) ? 1 : 12, isClass(number) ? parent.size() : place + 2);
        }
        doc.judged("both wrong", Shape.withPool().u2(0, 0, 0), 12, place);
        doc.rightSoFar("one byte of this", Shape.withPool().u2(0).u1(9));
        doc.rightSoFar("one byte of super", Shape.withPool().u2(0, Shape.CLASS_A).u1(9));
    }

    private static Shape toInterfaces() {
        return Shape.withPool().u2(0, Shape.CLASS_A, Shape.CLASS_A);
    }

    private void interfaces() {
        doc.says(TERMS, "U2 number of interfaces, each U2 must name a CLASS: RULE 12;");
        int place = toInterfaces().size() + 2;
        doc.right("none", toInterfaces().u2(0, 0, 0, 0));
        doc.right("one", toInterfaces().u2(1, Shape.CLASS_A, 0, 0, 0));
        doc.right("two", toInterfaces().u2(2, Shape.CLASS_A, Shape.CLASS_M, 0, 0, 0));
        for (int number : NUMBERS) {
            Shape first = toInterfaces().u2(1, number);
            doc.judged("the first is " + number, first, isClass(number) ? 1 : 12, isClass(number) ? first.size() : place);
            boolean right = number == Shape.CLASS_M;
            if (number != Shape.CLASS_A) {
                Shape second = toInterfaces().u2(2, Shape.CLASS_A, number);
                doc.judged("the second is " + number, second, right ? 1 : 12, right ? second.size() : place + 2);
            }
        }
        doc.rightSoFar("two of which one is there", toInterfaces().u2(2, Shape.CLASS_A));
        doc.rightSoFar("65535 of which two are there", toInterfaces().u2(65535, Shape.CLASS_A, Shape.CLASS_M));
    }

    private void sameInterface() {
        doc.says(TERMS, "one whose number stood before among these: RULE 13 (its place).");
        int place = toInterfaces().size() + 2;
        doc.judged("right behind", toInterfaces().u2(2, 2, 2), 13, place + 2);
        doc.judged("the third is the first", toInterfaces().u2(3, 2, 15, 2), 13, place + 4);
        doc.judged("the third is the second", toInterfaces().u2(3, 2, 15, 15), 13, place + 4);
        doc.judged("before the next is read", toInterfaces().u2(3, 2, 2, 0), 13, place + 2);
        ClassShape x = toInterfaces().u2(2, 2, 2).load();
        x.cut(place + 3, 1);
        doc.due("the second's last byte cut: judge()", x.judge(), 1);
        doc.due("the second's last byte cut: place()", x.place(), place + 3);
        doc.right("this and super are not among these", toInterfaces().u2(1, Shape.CLASS_A, 0, 0, 0));
        doc.right("another number of the same name",
            Shape.head(4).text("A").u1(7).u2(1).u1(7).u2(1).u2(0, 2, 2, 2, 2, 3, 0, 0, 0));
    }

    private void fieldFlags() {
        doc.says(TERMS, "U2 number of fields, each: U2 flags: of 0x0001, 0x0002, 0x0004 at most one; "
            + "not both 0x0010 and 0x0040: RULE 14 (the flags).");
        int place = Shape.toFields().size() + 2;
        for (int low = 0; low < 8; low++) {
            for (int high : new int[] {0, 0x0010, 0x0040, 0x0050, 0xFFA8, 0xFFB8, 0xFFE8, 0xFFF8}) {
                boolean right = Integer.bitCount(low) < 2 && (high & 0x0050) != 0x0050;
                Shape shape = Shape.toFields().u2(1, high | low, Shape.M, Shape.I, 0, 0, 0);
                doc.judged("field flags " + Integer.toHexString(high | low), shape, right ? 0 : 14, place);
            }
        }
        doc.judged("before the name is read", Shape.toFields().u2(1, 3), 14, place);
        doc.right("no field", Shape.toFields().u2(0, 0, 0));
        doc.rightSoFar("65535 fields of which one is there", Shape.toFields().u2(65535, 0, Shape.M, Shape.I, 0));
        manyFields();
    }

    /** Seven TEXTs that are names and types give 49 different fields; a FILE has room for 43 of them. */
    private void manyFields() {
        Shape shape = Shape.head(9);
        for (String text : new String[] {"B", "C", "D", "F", "I", "J", "S"}) {
            shape.text(text);
        }
        shape.u1(7).u2(1).u2(0, 8, 8, 0, 43);
        for (int i = 0; i < 42; i++) {
            shape.u2(0, 1 + i / 7, 1 + i % 7, 0);
        }
        Shape right = shape.copy().u2(0, 7, 1, 0, 0, 0);
        doc.right("43 fields", right);
        doc.tallies("43 fields", right, 8, 43);
        Shape same = shape.copy().mark().u2(0, 1, 1, 0);
        doc.judged("the 43rd is the first", same, 17, same.marked() + 2);
        doc.tallies("the 43rd is the first", same, 8, 42);
        Shape more = shape.copy().with(shape.size() - 42 * 8 - 1, 44).u2(0, 7, 1, 0, 0, 7).u1(0);
        doc.judged("a 44th that the FILE has no room for", more, 1, 400);
    }

    private void fieldNameAndType() {
        int place = Shape.toFields().size() + 2;
        doc.says(TERMS, "U2 name: a TEXT, a FIELD NAME: RULE 15 (its place);");
        for (int number : NUMBERS) {
            boolean right = Shape.TEXTS.contains(number);
            Shape shape = Shape.toFields().u2(1, 0, number);
            doc.judged("field name " + number, shape, right ? 1 : 15, right ? shape.size() : place + 2);
        }
        Shape name = Shape.toFieldWith(4, new Shape().text("a/b")).mark().u2(0, 3);
        doc.judged("field name a/b, before the type is read", name, 15, name.marked() + 2);
        doc.says(TERMS, "U2 type: a TEXT, a FIELD TYPE: RULE 16 (its place).");
        for (int number : NUMBERS) {
            boolean right = number == Shape.I || number == Shape.J;
            Shape shape = Shape.toFields().u2(1, 0, Shape.M, number);
            doc.judged("field type " + number, shape, right ? 1 : 16, right ? shape.size() : place + 4);
        }
        doc.judged("the second field's type", Shape.toFields().u2(2, 0, Shape.M, Shape.I, 0, 0, Shape.M, 0), 16, place + 12);
    }

    private void sameField() {
        doc.says(TERMS, "An earlier field has the same two TEXTs (by their bytes): RULE 17 (the name's place).");
        // Numbers 3 and 5 and 10 are "a", 4 and 6 are "I", 9 is "b", 11 is "aI" and 12 is "".
        Shape start = Shape.head(13).text("A").u1(7).u2(1).text("a").text("I").text("a").text("I").u1(3).u4(0)
            .text("[[I").text("b").text("a").text("aI").text("").u2(0, 2, 2, 0);
        int[][] same = {{3, 4}, {5, 6}, {3, 6}, {5, 4}, {10, 4}, {10, 6}};
        for (int[] s : same) {
            Shape shape = start.copy().u2(2, 0, 3, 4, 0).mark().u2(1, s[0], s[1]);
            doc.judged("a I and then " + s[0] + " " + s[1] + ", before its attributes", shape, 17, shape.marked() + 2);
        }
        int[][] others = {{3, 8}, {9, 4}, {9, 6}, {4, 4}, {11, 4}, {1, 6}};
        for (int[] o : others) {
            doc.right("a I and then " + o[0] + " " + o[1], start.copy().u2(2, 0, 3, 4, 0, 0, o[0], o[1], 0, 0, 0));
        }
        Shape third = start.copy().u2(3, 0, 3, 4, 0, 0, 9, 4, 0).mark().u2(0, 5, 6);
        doc.judged("the third is the first", third, 17, third.marked() + 2);
        Shape wrong = start.copy().u2(2, 0, 3, 4, 0).mark().u2(0, 3, 9);
        doc.judged("RULE 16 comes before", wrong, 16, wrong.marked() + 4);
    }

    /** Where attributes may stand: of a field, of a method, of the class. */
    private static Shape[] beforeAttributes() {
        return new Shape[] {Shape.toFields().u2(1, 0, Shape.M, Shape.I), Shape.toMethods().u2(1, 0, Shape.M, Shape.TO_VOID),
            Shape.toMethods().u2(0)};
    }

    private void attributeNames() {
        doc.says(TERMS, "ATTRIBUTES: U2 number, each: U2 name: a TEXT: RULE 15;");
        for (Shape start : beforeAttributes()) {
            int place = start.size() + 2;
            for (int number : NUMBERS) {
                boolean right = Shape.TEXTS.contains(number);
                Shape shape = start.copy().u2(1, number);
                doc.judged("attribute name " + number, shape, right ? 1 : 15, right ? shape.size() : place);
            }
            Shape second = start.copy().u2(2, Shape.A).u4(3).u1(1, 2, 3).u2(0);
            doc.judged("the second's name", second, 15, place + 9);
            doc.tallies("the second's name", second, 15, 0, 0, 0, 0, 1);
            doc.rightSoFar("65535 of which one is there", start.copy().u2(65535, Shape.A).u4(0));
        }
        doc.right("a name of no byte, and one that is no name",
            Shape.head(5).text("A").u1(7).u2(1).text("").text("/;").u2(0, 2, 2, 0, 0, 0, 2, 3).u4(0).u2(4).u4(0));
    }

    private void attributeBytes() {
        doc.says(TERMS, "U4 length (2^31 and more: RULE 1), and so many bytes.");
        for (Shape start : beforeAttributes()) {
            for (int length : new int[] {0x80000000, 0x80000001, 0x80000008, 0xFFFFFFFF, 0x7FFFFFFF, 0x01000000, 0x10000,
                256, 9}) {
                doc.rightSoFar("length " + Integer.toHexString(length) + " of 8 bytes",
                    start.copy().u2(1, Shape.A).u4(length).u4(0, 0));
                doc.rightSoFar("length " + Integer.toHexString(length) + " of none",
                    start.copy().u2(1, Shape.A).u4(length));
            }
            doc.rightSoFar("three bytes of the length", start.copy().u2(1, Shape.A).u1(0, 0, 0));
            doc.tallies("length 9 of 8 bytes", start.copy().u2(1, Shape.A).u4(9).u4(0, 0), 15, 0, 0, 0, 0, 0);
            doc.tallies("length 8 of 8 bytes", start.copy().u2(2, Shape.A).u4(8).u4(0, 0), 15, 0, 0, 0, 0, 1);
        }
        doc.right("length 0", Shape.toFields().u2(1, 0, Shape.M, Shape.I, 1, Shape.A).u4(0).u2(0, 0));
        doc.right("length 256", Shape.toFields().u2(1, 0, Shape.M, Shape.I, 1, Shape.A).u4(256).u1(new int[256]).u2(0, 0));
        doc.rightSoFar("a \"Code\" of 2^31", beforeAttributes()[1].u2(1, Shape.CODE).u4(0x80000000));
        doc.rightSoFar("a \"ConstantValue\" of 2^31", beforeAttributes()[0].u2(1, Shape.CONSTANT_VALUE).u4(0x80000002).u2(7));
    }

    private static Shape constant(int type, int length, int number) {
        return Shape.toFields().u2(1, 0, Shape.M, type, 1).mark().u2(Shape.CONSTANT_VALUE).u4(length).u2(number);
    }

    /** A field of this type whose ConstantValue, at the mark, is an INT (6) or a LONG (7). */
    private static Shape constantOf(String type, int number) {
        return Shape.toFieldWith(9, new Shape().text("a").text(type).text("ConstantValue").u1(3).u4(7).u1(5).u4(0, 7))
            .u2(0, 3, 4, 1).mark().u2(5).u4(2).u2(number).u2(0, 0);
    }

    private void constantValues() {
        doc.says(TERMS, "Then one named \"ConstantValue\" must have the length 2 and name an INT for a field of type "
            + "I, S, B, C or Z, a LONG for J; other types may not have it: RULE 18 (its name's place).");
        int place = constant(Shape.I, 2, 0).marked();
        for (int length : new int[] {0, 1, 3, 4, 256, 258}) {
            Shape shape = constant(Shape.I, length, Shape.FIVE).u1(new int[Math.max(0, length - 2)]);
            doc.judged("length " + length, shape, 18, place);
        }
        doc.rightSoFar("length 3 that is not there", constant(Shape.I, 3, Shape.FIVE));
        for (int number : NUMBERS) {
            doc.judged("I and number " + number, constant(Shape.I, 2, number).u2(0, 0), number == Shape.FIVE ? 0 : 18, place);
            doc.judged("J and number " + number, constant(Shape.J, 2, number).u2(0, 0), number == Shape.LONG ? 0 : 18, place);
        }
        for (String type : new String[] {"I", "S", "B", "C", "Z", "J", "D", "F", "[I", "[J", "LI;", "LJ;", "[[Z"}) {
            Shape ofInt = constantOf(type, 6);
            doc.judged(type + " and an INT", ofInt, "ISBCZ".contains(type) ? 0 : 18, ofInt.marked());
            Shape ofLong = constantOf(type, 7);
            doc.judged(type + " and a LONG", ofLong, "J".equals(type) ? 0 : 18, ofLong.marked());
        }
        doc.right("two of them", Shape.toFields().u2(1, 0, Shape.M, Shape.I, 2)
            .u2(Shape.CONSTANT_VALUE).u4(2).u2(Shape.FIVE, Shape.CONSTANT_VALUE).u4(2).u2(Shape.FIVE).u2(0, 0));
        Shape second = Shape.toFields().u2(1, 0, Shape.M, Shape.I, 2).u2(Shape.A).u4(0).mark().u2(Shape.CONSTANT_VALUE).u4(0);
        doc.judged("the second attribute", second, 18, second.marked());
        doc.tallies("the second attribute", second, 15, 0, 0, 0, 0, 1);
    }

    private void otherAttributes() {
        doc.says(TERMS, "Those with other names are passed over.");
        for (String name : new String[] {"", "ConstantValu", "ConstantValues", "constantValue", "Code", "a"}) {
            Shape shape = Shape.toFieldWith(6, new Shape().text("a").text("D").text(name)).u2(0, 3, 4, 1, 5).u4(3).u1(1, 2, 3);
            doc.right("\"" + name + "\" of a field", shape.u2(0, 0));
            doc.tallies("\"" + name + "\" of a field", shape, 5, 1, 0, 0, 0, 1);
        }
        Shape method = Shape.toMethods().u2(1, 0x400, Shape.M, Shape.TO_VOID, 1, Shape.CONSTANT_VALUE).u4(1).u1(0).u2(0);
        doc.right("\"ConstantValue\" of a method", method);
        doc.tallies("\"ConstantValue\" of a method", method, 15, 0, 1, 0, 0, 1);
    }

    private void methodFlags() {
        doc.says(TERMS, "U2 number of methods, each: U2 flags: of 0x0001, 0x0002, 0x0004 at most one; "
            + "with 0x0400 none of 0x0010, 0x0008, 0x0002: RULE 14.");
        int place = Shape.toMethods().size() + 2;
        for (int low = 0; low < 32; low++) {
            for (int high : new int[] {0x0100, 0x0400, 0x0500, 0xF9E0, 0xFFE0}) {
                boolean right = Integer.bitCount(low & 7) < 2 && ((high & 0x0400) == 0 || (low & 0x001A) == 0);
                Shape shape = Shape.toMethods().u2(1, high | low, Shape.M, Shape.TO_VOID, 0, 0);
                doc.judged("method flags " + Integer.toHexString(high | low), shape, right ? 0 : 14, place);
            }
        }
        doc.judged("before the name is read", Shape.toMethods().u2(1, 0x0408), 14, place);
        doc.rightSoFar("0x0010 and 0x0040, as no field may have", Shape.toMethods().u2(1, 0x0050));
        doc.right("no method", Shape.toMethods().u2(0, 0));
        doc.rightSoFar("65535 methods of which one is there", Shape.toMethods().u2(65535, 0x400, Shape.M, Shape.TO_VOID, 0));
    }

    private void methodNameAndType() {
        doc.says(TERMS, "U2 name: a MEMBER NAME: RULE 15; U2 type: a METHOD TYPE: RULE 16;");
        int place = Shape.toMethods().size() + 2;
        for (int number : NUMBERS) {
            boolean isText = Shape.TEXTS.contains(number);
            Shape name = Shape.toMethods().u2(1, 0, number);
            doc.judged("method name " + number, name, isText ? 1 : 15, isText ? name.size() : place + 2);
            boolean isType = number == Shape.TO_VOID;
            Shape type = Shape.toMethods().u2(1, 0, Shape.M, number);
            doc.judged("method type " + number, type, isType ? 1 : 16, isType ? type.size() : place + 4);
        }
    }

    private void sameMethod() {
        doc.says(TERMS, "the same two TEXTs as an earlier method: RULE 17 (the name's place);");
        Shape start = Shape.head(8).text("A").u1(7).u2(1).text("a").text("()V").text("a").text("()V").text("()I");
        Shape same = start.copy().u2(0, 2, 2, 0, 0, 2, 0x400, 3, 4, 0).mark().u2(0x400, 5, 6);
        doc.judged("the same by their bytes, before its attributes", same, 17, same.marked() + 2);
        doc.tallies("the same by their bytes", same, 7, 0, 1);
        doc.right("another type", start.copy().u2(0, 2, 2, 0, 0, 2, 0x400, 3, 4, 0, 0x400, 5, 7, 0, 0));
        doc.right("another name", start.copy().u2(0, 2, 2, 0, 0, 2, 0x400, 3, 4, 0, 0x400, 1, 6, 0, 0));
        doc.right("a field of the name is no earlier method", Shape.toFields().u2(1, 0, Shape.M, Shape.I, 0)
            .u2(1, 0x400, Shape.M, Shape.TO_VOID, 0, 0));
    }

    private void placesOfMethods() {
        doc.says(TERMS, "the places of RULES 14 to 16 are as for fields.");
        Shape start = Shape.toMethods().u2(2, 0x400, Shape.M, Shape.TO_VOID, 0).mark();
        doc.judged("RULE 14", start.copy().u2(3, 0, 0), 14, start.marked());
        doc.judged("RULE 15", start.copy().u2(0, 0, 0), 15, start.marked() + 2);
        doc.judged("RULE 16", start.copy().u2(0, Shape.A, 0), 16, start.marked() + 4);
    }

    private void secondCode() {
        doc.says(TERMS, "ATTRIBUTES as above, of which \"Code\" is read as CODE: "
            + "a second one: RULE 19 (its name's place), before its length is read;");
        Shape code = Shape.code(bytes(177));
        Shape start = Shape.toMethods().u2(1, 0, Shape.M, Shape.TO_VOID, 3, Shape.CODE).u4(code.size()).all(code);
        Shape second = start.copy().mark().u2(Shape.CODE);
        doc.judged("right behind the first, without a length", second, 19, second.marked());
        doc.tallies("right behind the first", second, 15, 0, 0, 1, 0, 1);
        ClassShape x = second.load();
        x.cut(second.size() - 1, 1);
        doc.due("its name's last byte cut: judge()", x.judge(), 1);
        doc.due("its name's last byte cut: place()", x.place(), second.size() - 1);
        Shape huge = start.copy().mark().u2(Shape.CODE).u4(-1);
        doc.judged("of a length that is not there", huge, 19, huge.marked());
        Shape third = start.copy().u2(Shape.A).u4(0).mark().u2(Shape.CODE);
        doc.judged("behind another attribute", third, 19, third.marked());
        doc.right("one behind another attribute", Shape.toMethods().u2(1, 0, Shape.M, Shape.TO_VOID, 2, Shape.A).u4(0)
            .u2(Shape.CODE).u4(code.size()).all(code).u2(0));
        doc.right("one of each of two methods", Shape.toMethods()
            .u2(2, 0, Shape.M, Shape.TO_VOID, 1, Shape.CODE).u4(code.size()).all(code)
            .u2(0, Shape.A, Shape.TO_VOID, 1, Shape.CODE).u4(code.size()).all(code).u2(0));
    }

    /** A method whose "Code", at the mark, is said to have so many bytes. */
    private static Shape codeOfLength(int length, Shape code) {
        return Shape.toMethods().u2(1, 0, Shape.M, Shape.TO_VOID, 1).mark().u2(Shape.CODE).u4(length).all(code).u2(0);
    }

    /** A CODE whose number of attributes is to follow. */
    private static Shape toCodeAttributes() {
        return Shape.code(bytes(177)).without(2);
    }

    /** The place of the first attribute's name in a CODE of toCodeAttributes. */
    private static int nameInCode(Shape method) {
        return method.marked() + 6 + toCodeAttributes().size() + 2;
    }

    private void codeEnds() {
        doc.says(TERMS, "when its bytes are there: what is read as CODE must not go beyond its end (an attribute in it of "
            + "2^31 bytes and more does), and must end there: RULE 20 (its name's place).");
        Shape code = toCodeAttributes().u2(1, Shape.A).u4(2).u1(7, 7);
        int name = codeOfLength(code.size(), code).marked();
        doc.right("the length that it has", codeOfLength(code.size(), code));
        for (int length = 0; length < code.size(); length++) {
            doc.judged("its length " + length + " of " + code.size(), codeOfLength(length, code), 20, name);
        }
        for (int length = 0; length < 8; length++) {
            Shape zeros = codeOfLength(length, bytes(new int[length]));
            doc.judged("no more than " + length + " bytes of 0, up to its U4 length", zeros, 20, name);
            doc.tallies("no more than " + length + " bytes of 0", zeros, 15, 0, 0, 0, 0, 0);
        }
        doc.judged("a byte more than it has", codeOfLength(code.size() + 1, code.copy().u1(0)), 20, name);
        doc.judged("its bytes are not there", codeOfLength(code.size() + 3, code), 1, codeOfLength(0, code).size());
        for (int length : new int[] {1, 256, 0x7FFFFFFF, 0x80000000, 0xFFFFFFFF}) {
            Shape tooLong = toCodeAttributes().u2(1, Shape.A).u4(length);
            doc.judged("an attribute of " + Integer.toHexString(length), codeOfLength(tooLong.size(), tooLong), 20, name);
            doc.judged("an attribute of " + Integer.toHexString(length) + " before the FILE's end",
                codeOfLength(tooLong.size(), tooLong).without(2), 20, name);
        }
        Shape second = toCodeAttributes().u2(2, Shape.A).u4(0).u2(Shape.A).u4(1);
        doc.judged("a second attribute beyond it", codeOfLength(second.size(), second), 20, name);
        doc.tallies("a second attribute beyond it", codeOfLength(second.size(), second), 15, 0, 0, 0, 0, 1);
        Shape handlers = Shape.code(bytes(177)).without(4).u2(65535, 0);
        doc.judged("65535 handlers", codeOfLength(handlers.size(), handlers), 20, name);
        Shape attributes = toCodeAttributes().u2(65535);
        doc.judged("65535 attributes", codeOfLength(attributes.size(), attributes), 20, name);
        Shape unnamed = toCodeAttributes().u2(1, Shape.CLASS_A);
        doc.judged("RULE 15 of an attribute in it", codeOfLength(unnamed.size(), unnamed), 15,
            nameInCode(codeOfLength(0, unnamed)));
    }

    private void missingCode() {
        doc.says(TERMS, "After its attributes: a method with 0x0400 or 0x0100 must have no \"Code\", "
            + "any other must have it: RULE 21 (the flags).");
        int place = Shape.toMethods().size() + 2;
        Shape code = Shape.code(bytes(177));
        for (int flags : new int[] {0, 0x0001, 0x001A, 0xFAF8, 0x0100, 0x0400, 0x0500, 0x0118, 0xFFE1}) {
            boolean mustHave = (flags & 0x0500) == 0;
            String what = "flags " + Integer.toHexString(flags);
            Shape start = Shape.toMethods().u2(1, flags, Shape.M, Shape.TO_VOID);
            doc.judged(what + " and none", start.copy().u2(0, 0), mustHave ? 21 : 0, place);
            doc.judged(what + " and another", start.copy().u2(1, Shape.A).u4(0).u2(0), mustHave ? 21 : 0, place);
            Shape with = start.copy().u2(1, Shape.CODE).u4(code.size()).all(code).u2(0);
            doc.judged(what + " and \"Code\"", with, mustHave ? 0 : 21, place);
        }
        Shape nativeMethod = Shape.toMethods().u2(1, 0x0100, Shape.M, Shape.TO_VOID, 2, Shape.CODE).u4(code.size()).all(code);
        doc.rightSoFar("before its last attribute is read", nativeMethod);
        Shape bad = Shape.code(bytes(0));
        doc.judged("its \"Code\" is judged before", Shape.toMethods().u2(1, 0x400, Shape.M, Shape.TO_VOID, 1, Shape.CODE)
            .u4(bad.size()).all(bad), 26, place + 22);
        Shape second = Shape.toMethods().u2(2, 0, Shape.M, Shape.TO_VOID, 1, Shape.CODE).u4(code.size()).all(code)
            .mark().u2(0, Shape.A, Shape.TO_VOID, 0);
        doc.judged("the second method has none", second, 21, second.marked());
    }

    private void classAttributes() {
        doc.says(TERMS, "ATTRIBUTES of the class, all passed over.");
        Shape shape = Shape.toMethods().u2(0, 4, Shape.CODE).u4(0).u2(Shape.CODE).u4(1).u1(9)
            .u2(Shape.CONSTANT_VALUE).u4(1).u1(9).u2(Shape.A).u4(0);
        doc.right("two \"Code\" and a \"ConstantValue\"", shape);
        doc.tallies("two \"Code\" and a \"ConstantValue\"", shape, 15, 0, 0, 0, 0, 4);
        doc.right("none", Shape.toMethods().u2(0, 0));
    }

    private void byteBehind() {
        doc.says(TERMS, "A byte behind: RULE 28 (it).");
        int length = Shape.whole().size();
        doc.judged("one", Shape.whole().u1(0), 28, length);
        doc.judged("many", Shape.whole().u4(1, 2, 3), 28, length);
        Shape most = Shape.toMethods().u2(0, 1, Shape.A);
        int rest = 400 - most.size() - 4;
        doc.judged("the 400th", most.u4(rest - 1).u1(new int[rest]), 28, 399);
        doc.tallies("one", Shape.whole().u1(0), 15, 2, 2, 3, 1, 6, 0);
    }

    private void noText() {
        doc.says(TERMS, "\"A TEXT\" is broken by an entry that is none, of another kind, 0, "
            + "or the second number of a LONG, all alike.");
        int[] noTexts = {Shape.COUNT, Shape.COUNT + 1, 0xFFFF, Shape.CLASS_A, Shape.LONG, 0, Shape.SECOND_OF_LONG};
        for (int number : noTexts) {
            doc.judged("CLASS of " + number, pool(7, number), 8, Shape.withPool().size());
            doc.judged("STRING of " + number, pool(8, number), 8, Shape.withPool().size());
            doc.judged("PAIR of first " + number, pool(12, number, Shape.TO_VOID), 8, Shape.withPool().size());
            doc.judged("PAIR of second " + number, pool(12, Shape.M, number), 8, Shape.withPool().size());
            int field = Shape.toFields().size() + 2;
            doc.judged("field name " + number, Shape.toFields().u2(1, 0, number), 15, field + 2);
            doc.judged("field type " + number, Shape.toFields().u2(1, 0, Shape.M, number), 16, field + 4);
            int method = Shape.toMethods().size() + 2;
            doc.judged("method name " + number, Shape.toMethods().u2(1, 0, number), 15, method + 2);
            doc.judged("method type " + number, Shape.toMethods().u2(1, 0, Shape.M, number), 16, method + 4);
            for (Shape start : beforeAttributes()) {
                doc.judged("attribute name " + number, start.copy().u2(1, number), 15, start.size() + 2);
            }
            Shape inner = toCodeAttributes().u2(1, number).u4(0);
            doc.judged("name of an attribute in a CODE " + number, codeOfLength(inner.size(), inner), 15,
                nameInCode(codeOfLength(0, inner)));
        }
    }

    /** The pool of withPool with one entry more, whose tag is right behind. */
    private static Shape pool(int tag, int... numbers) {
        return Shape.withPool().with(9, Shape.COUNT + 1).u1(tag).u2(numbers);
    }
}
