/** The Terms on names and types, sentence by sentence, with the edges that each names. */
final class NameEdges {
    private static final String TERMS = "Terms";

    private final Sentences doc;

    NameEdges(Sentences doc) {
        this.doc = doc;
    }

    void run() {
        fieldNames();
        memberNames();
        classNames();
        fieldTypes();
        methodTypes();
    }

    /** A class with one field; the mark is its flags. */
    private static Shape fieldOf(String name, String type) {
        return Shape.toFieldWith(5, new Shape().text(name).text(type)).mark().u2(0, 3, 4, 0, 0, 0);
    }

    /** A class with one abstract method; the mark is its flags. */
    private static Shape methodOf(String name, String type) {
        return Shape.head(5).text("A").u1(7).u2(1).text(name).text(type).u2(0, 2, 2, 0, 0, 1).mark().u2(0x400, 3, 4, 0, 0);
    }

    private static Shape classOf(String name) {
        return Shape.head(3).text(name).mark().u1(7).u2(1);
    }

    private static Shape pairOf(String name, String type) {
        return Shape.head(4).text(name).text(type).mark().u1(12).u2(1, 2);
    }

    /** A pool of one PAIR and two TEXTs that fills the FILE; the last TEXT is the one that is asked. */
    private static Shape fullPool(int name, int type, String last) {
        Shape shape = Shape.head(4).u1(12).u2(name, type);
        return shape.text("a".repeat(400 - shape.size() - 6 - last.length())).text(last);
    }

    private void fieldName(String name, boolean right) {
        Shape shape = fieldOf(name, "I");
        doc.judged("FIELD NAME \"" + name + "\"", shape, right ? 0 : 15, shape.marked() + 2);
    }

    private void memberName(String name, boolean right) {
        Shape method = methodOf(name, "()V");
        doc.judged("MEMBER NAME \"" + name + "\"", method, right ? 0 : 15, method.marked() + 2);
        Shape pair = pairOf(name, "()V");
        doc.judged("MEMBER NAME of a PAIR \"" + name + "\"", pair, right ? 1 : 9, right ? pair.size() : pair.marked());
    }

    private void className(String name, boolean right) {
        Shape shape = classOf(name);
        doc.judged("CLASS NAME \"" + name + "\"", shape, right ? 1 : 9, right ? shape.size() : shape.marked());
        // The same name in a type, but for those that end the type themselves.
        if (name.indexOf(';') < 0) {
            fieldType("L" + name + ";", right);
        }
    }

    private void fieldType(String type, boolean right) {
        Shape shape = fieldOf("a", type);
        doc.judged("FIELD TYPE \"" + type + "\"", shape, right ? 0 : 16, shape.marked() + 4);
        doc.tallies("FIELD TYPE \"" + type + "\"", shape, 4, right ? 1 : 0, 0, 0, 0, 0, right ? type.lastIndexOf('[') + 1 : 0);
    }

    private void methodType(String type, boolean right) {
        Shape method = methodOf("a", type);
        doc.judged("METHOD TYPE \"" + type + "\"", method, right ? 0 : 16, method.marked() + 4);
        Shape pair = pairOf("a", type);
        doc.judged("METHOD TYPE of a PAIR \"" + type + "\"", pair, right ? 1 : 10, right ? pair.size() : pair.marked());
    }

    private void fieldNames() {
        doc.says(TERMS, "NAMES: a FIELD NAME has at least one byte and none of . ; [ / ;");
        fieldName("", false);
        for (char letter = 1; letter < 0x80; letter++) {
            boolean right = ".;[/".indexOf(letter) < 0;
            fieldName("" + letter, right);
            fieldName(letter + "ab", right);
            fieldName("ab" + letter, right);
        }
        fieldName("\u00c2\u00a9", true);
        fieldName("<init>", true);
        fieldName("a".repeat(300), true);
        // The bytes behind a TEXT are not its own; here they are the class's flags.
        Shape before = Shape.head(4).text("A").u1(7).u2(1).text("a").u2(0x2F00, 2, 2, 0, 1, 0, 3);
        doc.rightSoFar("a FIELD NAME before the byte /", before);
        Shape empty = Shape.head(4).text("A").u1(7).u2(1).text("").u2(0x6100, 2, 2, 0, 1, 0).mark().u2(3);
        doc.judged("no FIELD NAME before the byte a", empty, 15, empty.marked());
    }

    private void memberNames() {
        doc.says(TERMS, "a MEMBER NAME is one without < and > too, or is \"<init>\" or \"<clinit>\";");
        memberName("", false);
        for (char letter = 1; letter < 0x80; letter++) {
            boolean right = ".;[/<>".indexOf(letter) < 0;
            memberName("" + letter, right);
            memberName("a" + letter + "b", right);
        }
        for (String name : new String[] {"<init>", "<clinit>", "init", "clinit", "\u00c2\u00a9"}) {
            memberName(name, true);
        }
        for (String name : new String[] {"<init", "init>", "<init>a", "a<init>", "<Init>", "<inix>", "<clinit", "<clinit>>",
            "<clinits>", "<cliniT>", "<>", "<a>", "<init><clinit>"}) {
            memberName(name, false);
        }
        Shape member = Shape.head(4).text("A").u1(7).u2(1).text("a").u2(0x3C00, 2, 2, 0, 0, 1, 0, 3);
        doc.rightSoFar("a MEMBER NAME before the byte <", member);
        doc.judged("no byte at the FILE's 400th", fullPool(3, 2, ""), 9, 10);
        doc.judged("<init at the FILE's 400th byte", fullPool(3, 2, "<init"), 9, 10);
        doc.judged("<init> at the FILE's 400th byte, its type is wrong", fullPool(3, 2, "<init>"), 10, 10);
        Shape empty = Shape.head(4).text("A").u1(7).u2(1).text("").u2(0x2800, 2, 2, 0, 0, 1, 0).mark().u2(3);
        doc.judged("no MEMBER NAME before the byte (", empty, 15, empty.marked());
    }

    private void classNames() {
        doc.says(TERMS, "a CLASS NAME is one or more FIELD NAMEs with / between.");
        for (String name : new String[] {"a", "a/b", "a/b/c", "ab/cd", "<", "a>", "(", "V", "<init>", "]", "\u00c2\u00a9/a"}) {
            className(name, true);
        }
        for (String name : new String[] {"", "/", "//", "a/", "/a", "a//b", "a/b/", "a.b", "a/b.", ".", "[a", "a/[", "[I",
            "a;", ";", "a/;b", "LA;"}) {
            className(name, false);
        }
    }

    private void fieldTypes() {
        doc.says(TERMS, "A FIELD TYPE: any number of [ up to 255, then one of B C D F I J S Z,");
        for (char letter = 1; letter < 0x80; letter++) {
            fieldType("" + letter, "BCDFIJSZ".indexOf(letter) >= 0);
        }
        for (int brackets : new int[] {1, 2, 127, 128, 254, 255}) {
            fieldType("[".repeat(brackets) + "I", true);
        }
        fieldType("[".repeat(256) + "I", false);
        fieldType("[".repeat(300) + "I", false);
        fieldType("", false);
        fieldType("[", false);
        fieldType("[".repeat(255), false);
        fieldType("[V", false);
        doc.says(TERMS, "or L, a CLASS NAME, ; and nothing else.");
        for (String type : new String[] {"La;", "La/b;", "[La;", "L<;", "LI;", "[".repeat(255) + "La;"}) {
            fieldType(type, true);
        }
        for (String type : new String[] {"L", "L;", "La", "La;;", "La;I", "La;La;", "L/a;", "La/;", "La.b;", "L[I;", "II", "I[",
            "I;", "Ia", "[".repeat(256) + "La;"}) {
            fieldType(type, false);
        }
        Shape letter = Shape.head(5).text("A").u1(7).u2(1).text("a").text("[").u2(0x4900, 2, 2, 0, 1, 0, 3).mark().u2(4);
        doc.judged("a [ before the byte I", letter, 16, letter.marked());
    }

    private void methodTypes() {
        doc.says(TERMS, "A METHOD TYPE: (, any number of FIELD TYPEs, ), then a FIELD TYPE or V, and nothing else.");
        String many = "[".repeat(255);
        for (String type : new String[] {"()V", "()I", "(I)V", "(BCDFIJSZ)Z", "(La;)V", "(La/b;[[I)[[La;", "(La)b;)V",
            "(L(;)LV;", "(La;Lb;)V", "(La;Lb/c;[Ld;Le;)Lf;", "(IJ[ILa;)V", "()[J", "([La;[[B)D", "(" + "I".repeat(256) + ")V", "(" + many + "I)V", "()" + many + "I"}) {
            methodType(type, true);
        }
        for (String type : new String[] {"", "V", "I", "(", ")", "()", "(V", "()VV", "()IV", "()VI", "()II", "(V)V", "()[V", "(I",
            "(I)", "(L;)V", "(La)V", "(La;)", "(La", "a()V", "()La", "()L;", "()La/;", "(La//b;)V", "([)V", "()[", "(X)V",
            "()X", "()V ", "(()V", "())V", "(La.b;)V", "(L[I;)V", "(La;Lb)V", "(La;;)V", "(La;L;)V", ")V", "I)V", "))V", "[)V", "(I)V(",
            "([" + many + "I)V", "()[" + many + "I"}) {
            methodType(type, false);
        }
        for (String type : new String[] {"", "(", "([", "(I", "(L", "(La", "(La;", "()", "()[", "()L", "()La"}) {
            doc.judged("\"" + type + "\" at the FILE's 400th byte", fullPool(2, 3, type), 10, 10);
        }
        doc.rightSoFar("\"()V\" at the FILE's 400th byte", fullPool(2, 3, "()V"));
        doc.judged("() before the byte V", Shape.head(4).u1(12).u2(2, 3).text("a").text("()").u2(0x5600), 10, 10);
    }
}
