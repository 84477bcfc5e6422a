/** Promise 12, sentence by sentence, with the edges that it names. */
final class ReadEdges {
    private static final String PROMISE = "Promise 12";

    private final Sentences doc;

    ReadEdges(Sentences doc) {
        this.doc = doc;
    }

    void run() {
        lastJudging();
        numbers();
        fields();
        methods();
        instructions();
        handlers();
        attributes();
        brackets();
        others();
    }

    private void lastJudging() {
        doc.says(PROMISE, "What the last judging read before it ended (all 0 before):");
        ClassShape x = Shape.whole().load();
        for (int what = 0; what <= 6; what++) {
            doc.due("read(" + what + ") before a judging", x.read(what), 0);
        }
        x.judge();
        int[] wants = {15, 2, 2, 3, 1, 6, 0};
        x.clear();
        for (int what = 0; what <= 6; what++) {
            doc.due("read(" + what + ") of a right class, after clear()", x.read(what), wants[what]);
        }
        x.judge();
        for (int what = 0; what <= 6; what++) {
            doc.due("read(" + what + ") of the next judging, of no byte", x.read(what), 0);
        }
    }

    private void numbers() {
        doc.says(PROMISE, "0: pool numbers used by entries read (of a LONG with RULE 7 one; "
            + "an entry with RULE 5 or 6, or cut off, none);");
        doc.tallies("no entry", Shape.head(1), 0);
        doc.tallies("a TEXT", Shape.head(2).text("a"), 1);
        doc.tallies("a LONG", Shape.head(3).u1(5).u4(0, 0), 2);
        doc.tallies("a LONG with RULE 7", Shape.head(2).u1(5).u4(0, 0), 1);
        doc.tallies("a LONG with RULE 7 behind a LONG", Shape.head(4).u1(5).u4(0, 0).u1(5).u4(0, 0), 3);
        doc.tallies("a LONG cut off", Shape.head(2).u1(5).u4(0).u1(0, 0, 0), 0);
        doc.tallies("an entry with RULE 5", Shape.head(3).text("a").u1(2), 1);
        doc.tallies("an entry with RULE 6", Shape.head(3).text("a").text("\u0080"), 1);
        doc.tallies("an entry cut off", Shape.head(3).text("a").u1(7, 0), 1);
        doc.tallies("a TEXT without its last byte", Shape.head(3).text("a").text("bc").without(1), 1);
        doc.tallies("a tag that is not there", Shape.head(3).text("a"), 1);
        doc.tallies("RULE 8 comes after all were read", Shape.head(3).u1(7).u2(1).text("a"), 2);
    }

    private void fields() {
        doc.says(PROMISE, "1: fields read wholly;");
        Shape start = Shape.toFields().u2(3, 0, Shape.M, Shape.I, 0);
        doc.tallies("one and no more", start, 15, 1);
        doc.tallies("RULE 14", start.copy().u2(3), 15, 1);
        doc.tallies("RULE 15", start.copy().u2(0, 0), 15, 1);
        doc.tallies("RULE 16", start.copy().u2(0, Shape.A, 0), 15, 1);
        doc.tallies("RULE 17", start.copy().u2(0, Shape.M, Shape.I, 0), 15, 1);
        doc.tallies("a second without its number of attributes", start.copy().u2(0, Shape.A, Shape.I).u1(0), 15, 1);
        doc.tallies("a second whole", start.copy().u2(0, Shape.A, Shape.I, 0), 15, 2);
        Shape attribute = start.copy().u2(0, Shape.A, Shape.I, 1, Shape.CONSTANT_VALUE).u4(2);
        doc.tallies("RULE 18", attribute.copy().u2(0), 15, 1);
        doc.tallies("an attribute cut off", attribute.copy().u1(0), 15, 1);
        doc.tallies("an attribute whole", attribute.copy().u2(Shape.FIVE), 15, 2);
    }

    private void methods() {
        doc.says(PROMISE, "2: methods read wholly;");
        Shape start = Shape.toMethods().u2(3, 0x400, Shape.M, Shape.TO_VOID, 0);
        doc.tallies("one and no more", start, 15, 0, 1);
        doc.tallies("RULE 14", start.copy().u2(3), 15, 0, 1);
        doc.tallies("RULE 15", start.copy().u2(0, 0), 15, 0, 1);
        doc.tallies("RULE 16", start.copy().u2(0, Shape.A, 0), 15, 0, 1);
        doc.tallies("RULE 17", start.copy().u2(0, Shape.M, Shape.TO_VOID, 0), 15, 0, 1);
        doc.tallies("a second without its number of attributes", start.copy().u2(0x400, Shape.A, Shape.TO_VOID).u1(0), 15, 0, 1);
        doc.tallies("a second whole", start.copy().u2(0x400, Shape.A, Shape.TO_VOID, 0), 15, 0, 2);
        doc.tallies("RULE 21", start.copy().u2(0, Shape.A, Shape.TO_VOID, 0), 15, 0, 1);
        doc.tallies("an attribute cut off", start.copy().u2(0x400, Shape.A, Shape.TO_VOID, 1, Shape.A).u4(1), 15, 0, 1);
    }

    /** A CODE of two instructions and one handler that ends there. */
    private static Shape twoInstructions(int handlerEnd) {
        return new Shape().u2(0, 0).u4(2).u1(0, 177).u2(1, 0, handlerEnd, 0, 0, 0);
    }

    private static Shape twoMethods(Shape first, Shape second) {
        return Shape.toMethods().u2(2, 0, Shape.M, Shape.TO_VOID, 1, Shape.CODE).u4(first.size()).all(first)
            .u2(0, Shape.A, Shape.TO_VOID, 1, Shape.CODE).u4(second.size()).all(second).u2(0);
    }

    private void instructions() {
        doc.says(PROMISE, "3: INSTRUCTIONS in all CODEs judged wholly (up to RULE 27);");
        doc.tallies("two CODEs", twoMethods(twoInstructions(2), twoInstructions(1)), 15, 0, 2, 4, 2, 2);
        doc.tallies("RULE 27 of the second", twoMethods(twoInstructions(2), twoInstructions(0)), 15, 0, 1, 2, 1, 1);
        doc.tallies("RULE 27 of the first", twoMethods(twoInstructions(3), twoInstructions(1)), 15, 0, 0, 0, 0, 0);
        for (int[] code : new int[][] {{0, 2}, {21, 0, 177}, {167, 0, 1}, {177, 0}}) {
            Shape second = Shape.code(new Shape().u1(code)).with(3, 0);
            doc.tallies("RULES 23 to 26 of the second", twoMethods(twoInstructions(2), second), 15, 0, 1, 2, 1, 1);
        }
        Shape nativeMethod = Shape.toMethods().u2(1, 0x0100, Shape.M, Shape.TO_VOID, 1, Shape.CODE)
            .u4(twoInstructions(2).size()).all(twoInstructions(2));
        doc.tallies("RULE 21 of a method whose CODE was judged wholly", nativeMethod, 15, 0, 0, 2, 1, 1);
        Shape wide = Shape.withInstructions(new Shape().u1(196, 132, 0, 1, 0, 0, 196, 21, 0, 0, 177));
        doc.tallies("196 and what it widens are one", wide, 15, 0, 1, 3);
        doc.tallies("64 in one CODE", Shape.withInstructions(new Shape().u1(new int[63]).u1(177)), 15, 0, 1, 64);
    }

    private void handlers() {
        doc.says(PROMISE, "4: handlers in these;");
        doc.tallies("none", Shape.withInstructions(new Shape().u1(177)), 15, 0, 1, 1, 0);
        doc.tallies("one of each of two", twoMethods(twoInstructions(2), twoInstructions(2)), 15, 0, 2, 4, 2);
        Shape two = new Shape().u2(0, 0).u4(1).u1(177).u2(2, 0, 1, 0, 0, 0, 1, 0, 9, 0);
        doc.tallies("the second of two with RULE 27", Shape.withCode(two), 15, 0, 0, 0, 0);
    }

    private void attributes() {
        doc.says(PROMISE, "5: attributes passed over, or read and judged wholly, those in CODEs too;");
        Shape w = Shape.whole();
        attributesOf(5, 1, Shape.whole().without(1));
        attributesOf(2, 17, Shape.whole().with(w.place("second field") + 3, Shape.M));
        attributesOf(0, 18, Shape.whole().with(w.place("constant") + 7, 0));
        attributesOf(4, 19, Shape.whole().with(w.place("second attribute") + 1, Shape.CODE));
        attributesOf(3, 20, Shape.whole().with(w.place("code") + 5, 34));
        attributesOf(5, 21, Shape.whole().with(w.place("method"), 1));
        attributesOf(2, 22, Shape.whole().with(w.place("length") + 3, 0));
        attributesOf(3, 23, Shape.whole().with(w.place("load"), 2));
        attributesOf(3, 24, Shape.whole().with(w.place("load") + 1, 2));
        attributesOf(3, 25, Shape.whole().with(w.place("jump") + 2, 1));
        attributesOf(3, 26, Shape.whole().with(w.place("return"), 0));
        attributesOf(3, 27, Shape.whole().with(w.place("handler") + 1, 1));
        attributesOf(6, 28, Shape.whole().u1(0));
        Shape start = Shape.toMethods().u2(0, 2, Shape.A).u4(0).u2(Shape.A).u4(1);
        doc.tallies("the second of the class, cut off", start, 15, 0, 0, 0, 0, 1);
        doc.tallies("the second of the class, whole", start.copy().u1(0), 15, 0, 0, 0, 0, 2);
    }

    private void attributesOf(int want, int rule, Shape shape) {
        ClassShape x = shape.load();
        doc.due("judge()", x.judge(), rule);
        doc.due("RULE " + rule + ": read(5)", x.read(5), want);
    }

    /** A class whose fields, all of one name, have these types; the class goes on behind them. */
    private static Shape typed(String... types) {
        Shape shape = Shape.head(types.length + 4).text("A").u1(7).u2(1).text("a");
        for (String type : types) {
            shape.text(type);
        }
        shape.u2(0, 2, 2, 0, types.length);
        for (int i = 0; i < types.length; i++) {
            shape.u2(0, 3, 4 + i, 0);
        }
        return shape.u2(0, 0);
    }

    private void bracketsOf(int want, int fields, String... types) {
        doc.tallies(String.join(" ", types), typed(types), types.length + 3, fields, 0, 0, 0, 0, want);
    }

    private void brackets() {
        doc.says(PROMISE, "6: the greatest number of [ at the beginning of a field's type that was not broken.");
        bracketsOf(0, 1, "I");
        bracketsOf(1, 1, "[I");
        bracketsOf(3, 3, "I", "[[[I", "[J");
        bracketsOf(255, 1, "[".repeat(255) + "I");
        bracketsOf(0, 0, "[".repeat(256) + "I");
        bracketsOf(2, 1, "[[I", "[[[V");
        bracketsOf(2, 1, "[[I", "[[[");
        bracketsOf(4, 2, "[[I", "[[[[LI;", "[");
        Shape sameTexts = Shape.head(5).text("A").u1(7).u2(1).text("a").text("[[I").u2(0, 2, 2, 0, 2, 0, 3, 4, 0, 0, 3, 4);
        doc.tallies("a field with RULE 17", sameTexts, 4, 1, 0, 0, 0, 0, 2);
        Shape cutOff = Shape.head(5).text("A").u1(7).u2(1).text("a").text("[[I").u2(0, 2, 2, 0, 2, 0, 3, 4);
        doc.tallies("a field cut off behind its type", cutOff, 4, 0, 0, 0, 0, 0, 2);
        Shape method = Shape.head(5).text("A").u1(7).u2(1).text("a").text("([[[I)[[J").u2(0, 2, 2, 0, 0, 1, 0x400, 3, 4, 0, 0);
        doc.right("a method's type", method);
        doc.tallies("a method's type", method, 4, 0, 1, 0, 0, 0, 0);
    }

    private void others() {
        doc.says(PROMISE, "REFUSED for others.");
        ClassShape x = Shape.whole().load();
        for (int turn = 0; turn < 2; turn++) {
            for (int what : new int[] {-1, 7, 8, 256, Integer.MIN_VALUE, Integer.MAX_VALUE}) {
                doc.due("read(" + what + ")", x.read(what), ClassShape.REFUSED);
            }
            x.judge();
        }
        doc.due("read(6), the last", x.read(6), 0);
    }
}
