/** The Terms from the FILE to the pool (RULES 1 to 10), sentence by sentence, with the edges that each names. */
final class PoolEdges {
    private static final String TERMS = "Terms";
    // Each tag with the bytes that follow it, of a TEXT its length alone.
    private static final int[][] SIZES = {{1, 2}, {3, 4}, {5, 8}, {7, 2}, {8, 2}, {10, 4}, {12, 4}};

    private final Sentences doc;

    PoolEdges(Sentences doc) {
        this.doc = doc;
    }

    void run() {
        theFile();
        wholeNumbers();
        firstRule();
        placeOfSeveralBytes();
        missingByte();
        magic();
        versions();
        countOfPool();
        numbersOfEntries();
        text();
        fixedEntries();
        longEntry();
        otherTag();
        charactersOfOne();
        charactersOfTwo();
        charactersOfThree();
        placeOfCharacter();
        longAtTheEnd();
        beforeAndAfterBytes();
        orderOfEntries();
        references();
        namesOfClasses();
        namesOfPairs();
    }

    private static Shape bytes(int... values) {
        return new Shape().u1(values);
    }

    private void theFile() {
        doc.says(TERMS, "THE FILE has at most 400 bytes (0 .. 255), at the places 0, 1, ...");
        ClassShape x = new ClassShape();
        for (int length = 4; length <= 400; length += 4) {
            doc.due("put(4, 0x00FF7F80)", x.put(4, 0x00FF7F80), length);
        }
        doc.due("put(1, 0) behind 400 bytes", x.put(1, 0), ClassShape.FULL);
        doc.due("count(0)", x.count(0), 400);
        doc.due("at(0)", x.at(0), 0);
        doc.due("at(1)", x.at(1), 255);
        doc.due("at(2)", x.at(2), 127);
        doc.due("at(399)", x.at(399), 128);
        doc.due("at(400)", x.at(400), ClassShape.REFUSED);
        Shape most = Shape.toMethods().u2(0, 1, Shape.A);
        int rest = 400 - most.size() - 4;
        doc.right("a class of 400 bytes", most.u4(rest).u1(new int[rest]));
    }

    private void wholeNumbers() {
        doc.says(TERMS, "U1, U2, U4 are whole numbers of 1, 2, 4 bytes, the highest first.");
        ClassShape x = new ClassShape();
        x.put(4, 0x01020304);
        x.put(2, 0x0506);
        x.put(1, 7);
        doc.bytes("put(4), put(2), put(1)", x, 1, 2, 3, 4, 5, 6, 7);
        doc.judged("major 52 * 256", new Shape().u4(Shape.MAGIC).u1(0, 0, 52, 0), 3, 6);
        doc.judged("a pool's count of 256 is not 1", Shape.head(0x0100).u1(2), 5, 10);
        doc.judged("a pool's count of 32768 is not below 0", Shape.head(0x8000).u1(2), 5, 10);
        for (int length : new int[] {127, 128, 255, 256}) {
            doc.rightSoFar("a TEXT of " + length, Shape.head(2).text("a".repeat(length)));
            doc.judged("a TEXT of " + length + " and a tag", Shape.head(3).text("a".repeat(length)).u1(2), 5, 13 + length);
        }
    }

    private void firstRule() {
        doc.says(TERMS, "JUDGING reads it from place 0 and ends with the first RULE that is broken, at a place");
        // RULES 2, 3, 4 and 11 are all broken; each is mended in turn.
        ClassShape x = new Shape().u4(0).u2(0, 70, 0, 0x200).load();
        int[][] mends = {{2, 0, 0, 0xCA}, {2, 0, 1, 0xFE}, {2, 0, 2, 0xBA}, {2, 0, 3, 0xBE}, {3, 6, 7, 69}, {4, 8, 9, 1},
            {11, 10, 10, 0}, {1, 12, 11, 0}};
        for (int[] m : mends) {
            doc.due("judge()", x.judge(), m[0]);
            doc.due("place()", x.place(), m[1]);
            x.patch(m[2], m[3]);
        }
    }

    private void placeOfSeveralBytes() {
        doc.says(TERMS, "(told in brackets; where a thing of several bytes is wrong, its first byte's place):");
        doc.judged("the last byte of the magic", new Shape().u4(Shape.MAGIC + 1), 2, 0);
        doc.judged("the second byte of major", new Shape().u4(Shape.MAGIC).u2(0, 70), 3, 6);
        Shape self = Shape.withPool().u2(0).mark().u2(Shape.A);
        doc.judged("the second byte of this", self, 12, self.marked());
        doc.judged("the third byte of a character", Shape.head(2).text("\u00e0\u0080a"), 6, 13);
    }

    private void missingByte() {
        doc.says(TERMS, "RULE 1 (the FILE's length): a byte is needed that is not there.");
        doc.judged("no byte at all", new Shape(), 1, 0);
        int length = Shape.whole().size();
        for (int left = 1; left < length; left++) {
            // All numbers of a right class are right, so only a byte that is not there can stop the reading.
            doc.judged("the first " + left + " bytes of a right class", Shape.whole().without(length - left), 1, left);
        }
        doc.right("all its bytes", Shape.whole());
        // Bytes that were cut are not there, though the object has held them.
        ClassShape x = Shape.whole().load();
        for (int left = length - 1; left >= 0; left--) {
            x.cut(left, 1);
            doc.due("cut(" + left + ", 1): judge()", x.judge(), 1);
        }
        Shape full = Shape.toMethods().u2(0, 1, Shape.A);
        int rest = 400 - full.size() - 4;
        doc.judged("the 401st byte", full.u4(rest + 1).u1(new int[rest]), 1, 400);
    }

    private void magic() {
        doc.says(TERMS, "U4 must be 0xCAFEBABE: RULE 2 (0).");
        for (int bit = 0; bit < 32; bit++) {
            doc.judged("bit " + bit + " changed", new Shape().u4(Shape.MAGIC ^ 1 << bit), 2, 0);
        }
        doc.rightSoFar("0xCAFEBABE", new Shape().u4(Shape.MAGIC));
        doc.rightSoFar("three bytes of another U4", bytes(0, 0, 0));
        doc.judged("0", new Shape().u4(0), 2, 0);
        doc.judged("0xBEBAFECA", new Shape().u4(0xBEBAFECA), 2, 0);
    }

    private void versions() {
        doc.says(TERMS, "U2 (not looked at),");
        for (int minor : new int[] {0, 1, 44, 0x8000, 0xFFFF}) {
            doc.rightSoFar("minor " + minor, new Shape().u4(Shape.MAGIC).u2(minor, 52));
        }
        doc.rightSoFar("one byte of it", new Shape().u4(Shape.MAGIC).u1(9));
        doc.says(TERMS, "U2 major must be 45 .. 69: RULE 3 (6).");
        for (int major : new int[] {45, 46, 68, 69}) {
            doc.rightSoFar("major " + major, new Shape().u4(Shape.MAGIC).u2(0, major));
        }
        for (int major : new int[] {0, 1, 44, 70, 127, 128, 255, 256 + 45, 45 * 256, 0x8000 + 52, 0xFFFF}) {
            doc.judged("major " + major, new Shape().u4(Shape.MAGIC).u2(0, major), 3, 6);
        }
        doc.rightSoFar("one byte of it", new Shape().u4(Shape.MAGIC).u2(0).u1(9));
    }

    private void countOfPool() {
        doc.says(TERMS, "U2 count of the pool must not be 0: RULE 4 (8).");
        doc.judged("0", Shape.head(0), 4, 8);
        doc.judged("0 and more behind", Shape.head(0).u4(0, 0), 4, 8);
        for (int count : new int[] {1, 255, 256, 0x8000, 0xFFFF}) {
            doc.rightSoFar("" + count, Shape.head(count));
        }
        doc.rightSoFar("one byte of it", Shape.head(0).without(1));
    }

    private void numbersOfEntries() {
        doc.says(TERMS, "POOL entries, numbered from 1, as long as the next number is below the count:");
        doc.judged("count 1: no entry, what follows are flags and this", Shape.head(1).u2(0, 0), 12, 12);
        doc.judged("count 2: one entry, and then flags and this", Shape.head(2).text("A").u2(0, 0), 12, 16);
        doc.judged("count 3: a second entry", Shape.head(3).text("A").u1(0), 5, 14);
        doc.judged("0 is no number", Shape.head(3).text("A").u1(7).u2(0), 8, 14);
        doc.rightSoFar("1 is the first", Shape.head(3).text("A").u1(7).u2(1));
        doc.rightSoFar("count - 1 is the last", Shape.head(3).u1(7).u2(2).text("A"));
        doc.judged("the count is none", Shape.head(3).text("A").u1(7).u2(3), 8, 14);
        for (int count : new int[] {131, 132, 0xFFFF}) {
            Shape most = Shape.head(count);
            for (int i = 0; i < 130; i++) {
                most.text("");
            }
            doc.rightSoFar("130 entries of " + count, most);
            doc.tallies("130 entries of " + count, most, 130);
        }
    }

    private void text() {
        doc.says(TERMS, "U1 tag;");
        doc.judged("a tag of two bytes", Shape.head(2).u2(7), 5, 10);
        doc.rightSoFar("a tag of one byte", Shape.head(2).u1(7));
        doc.says(TERMS, "1 TEXT: U2 length, so many bytes;");
        doc.judged("length 0, and the next tag", Shape.head(3).text("").u1(0), 5, 13);
        doc.judged("length 1, and the next tag", Shape.head(3).text("a").u1(0), 5, 14);
        doc.rightSoFar("length 3, two bytes", Shape.head(2).u1(1).u2(3).letters("ab"));
        doc.rightSoFar("length 65535, two bytes", Shape.head(2).u1(1).u2(65535).letters("ab"));
        doc.tallies("length 3, two bytes", Shape.head(2).u1(1).u2(3).letters("ab"), 0);
        Shape longest = Shape.head(2).text("a".repeat(387));
        doc.rightSoFar("a TEXT up to the FILE's 400th byte", longest);
        doc.tallies("a TEXT up to the FILE's 400th byte", longest, 1);
    }

    private void fixedEntries() {
        doc.says(TERMS, "3 INT: U4;");
        entryOf(3, 4);
        doc.says(TERMS, "7 CLASS: U2; 8 STRING: U2; 10 METHOD: U2, U2; 12 PAIR: U2, U2.");
        entryOf(7, 2);
        entryOf(8, 2);
        entryOf(10, 4);
        entryOf(12, 4);
    }

    /** An entry of so many bytes behind its tag: with one byte less, and with a second tag right behind. */
    private void entryOf(int tag, int size) {
        Shape less = Shape.head(4).u1(tag).u1(new int[size - 1]);
        doc.rightSoFar("tag " + tag + " with a byte less", less);
        doc.tallies("tag " + tag + " with a byte less", less, 0);
        Shape next = Shape.head(4).u1(tag).u1(new int[size]).u1(2);
        doc.judged("tag " + tag + " and another behind", next, 5, 11 + size);
        doc.tallies("tag " + tag + " and another behind", next, tag == 5 ? 2 : 1);
    }

    private void longEntry() {
        doc.says(TERMS, "5 LONG: U4, U4, and it takes two numbers;");
        entryOf(5, 8);
        doc.judged("count 3: no entry behind, but flags and this", Shape.head(3).u1(5).u4(0, 0).u2(0, 0), 12, 21);
        doc.rightSoFar("the entry behind is number 3", Shape.head(5).u1(5).u4(0, 0).text("A").u1(7).u2(3));
        doc.judged("number 2 is none", Shape.head(5).u1(5).u4(0, 0).text("A").u1(7).u2(2), 8, 23);
        ClassShape x = Shape.head(4).text("A").text("A").u1(7).u2(2).load();
        doc.due("number 2 is a TEXT: judge()", x.judge(), 1);
        x.clear();
        for (int four : new int[] {Shape.MAGIC, 52, 0x00040500, 0, 0x00000007}) {
            x.put(4, four);
        }
        x.put(2, 2);
        doc.due("number 2 was a TEXT in the last judging: judge()", x.judge(), 8);
        Shape longs = Shape.head(131);
        for (int i = 0; i < 43; i++) {
            longs.u1(5).u4(0, 0);
        }
        doc.rightSoFar("43 LONGs and a TEXT", longs.text(""));
        doc.tallies("43 LONGs and a TEXT", longs, 87);
    }

    private void otherTag() {
        doc.says(TERMS, "Another tag: RULE 5 (the tag).");
        for (int tag = 0; tag < 256; tag++) {
            boolean isTag = false;
            for (int[] known : SIZES) {
                isTag |= known[0] == tag;
            }
            Shape shape = Shape.head(2).u1(tag);
            doc.judged("tag " + tag, shape, isTag ? 1 : 5, isTag ? 11 : 10);
        }
    }

    /** A TEXT of these bytes is right, or its character at the place from 0 on is not so. */
    private void characters(int wrong, int... letters) {
        Shape shape = Shape.head(2).u1(1).u2(letters.length).u1(letters);
        StringBuilder what = new StringBuilder("TEXT");
        for (int letter : letters) {
            what.append(' ').append(Integer.toHexString(letter));
        }
        doc.judged(what.toString(), shape, wrong < 0 ? 1 : 6, wrong < 0 ? shape.size() : 13 + wrong);
        doc.tallies(what.toString(), shape, wrong < 0 ? 1 : 0);
    }

    private void charactersOfOne() {
        doc.says(TERMS, "TEXT's bytes must be characters: 0x01 .. 0x7F alone;");
        characters(-1);
        for (int first = 0x01; first <= 0x7F; first++) {
            characters(-1, first);
        }
        for (int first = 0x80; first <= 0xFF; first++) {
            characters(0, first);
        }
        characters(0, 0x00);
        characters(1, 0x01, 0x00);
        characters(-1, 0x01, 0x7F, 0x01);
    }

    private void charactersOfTwo() {
        doc.says(TERMS, "0xC0 .. 0xDF and one of 0x80 .. 0xBF;");
        for (int first = 0x80; first <= 0xFF; first++) {
            characters(first >= 0xC0 && first <= 0xDF ? -1 : 0, first, 0x80);
        }
        for (int second = 0; second <= 0xFF; second++) {
            boolean right = second >= 0x80 && second <= 0xBF;
            characters(right ? -1 : 0, 0xC0, second);
            characters(right ? -1 : 0, 0xDF, second);
        }
        characters(2, 0xC0, 0x80, 0x80);
        characters(-1, 0xC0, 0x80, 0xDF, 0xBF);
    }

    private void charactersOfThree() {
        doc.says(TERMS, "0xE0 .. 0xEF and two of these:");
        for (int first = 0xE0; first <= 0xFF; first++) {
            characters(first <= 0xEF ? -1 : 0, first, 0x80, 0xBF);
        }
        for (int other = 0; other <= 0xFF; other++) {
            boolean right = other >= 0x80 && other <= 0xBF;
            characters(right ? -1 : 0, 0xE0, other, 0x80);
            characters(right ? -1 : 0, 0xEF, 0xBF, other);
        }
        characters(3, 0xE0, 0x80, 0x80, 0x80);
        characters(0, 0xF0, 0x80, 0x80, 0x80);
    }

    private void placeOfCharacter() {
        doc.says(TERMS,
            "RULE 6 (the first byte of the first that is not so; a character that the TEXT's end cuts off is not so).");
        characters(1, 0x61, 0x80, 0x00);
        characters(2, 0xC2, 0xA9, 0xA9);
        characters(4, 0x61, 0xE0, 0x80, 0x80, 0xC0, 0x61);
        characters(0, 0xC0);
        characters(1, 0x61, 0xDF);
        characters(0, 0xE0);
        characters(0, 0xE0, 0x80);
        characters(2, 0xC0, 0x80, 0xEF, 0xBF);
        doc.judged("the byte behind the TEXT would end it", Shape.head(2).text("\u00c0").u1(0x80), 6, 13);
        doc.judged("two bytes behind the TEXT would end it", Shape.head(2).text("a\u00e0").u1(0x80, 0x80), 6, 14);
    }

    private void longAtTheEnd() {
        doc.says(TERMS, "A LONG whose second number is the count or more: RULE 7 (its tag).");
        doc.judged("number 1 of count 2", Shape.head(2).u1(5).u4(0, 0), 7, 10);
        doc.rightSoFar("number 1 of count 3", Shape.head(3).u1(5).u4(0, 0));
        doc.judged("number 2 of count 3", Shape.head(3).text("A").u1(5).u4(0, 0), 7, 14);
        doc.judged("number 3 of count 4", Shape.head(4).u1(5).u4(0, 0).u1(5).u4(0, 0), 7, 19);
        doc.rightSoFar("number 3 of count 5", Shape.head(5).u1(5).u4(0, 0).u1(5).u4(0, 0));
    }

    private void beforeAndAfterBytes() {
        doc.says(TERMS, "RULE 5 is judged before, 6 and 7 after the entry's bytes are read.");
        doc.judged("a tag that is none at the FILE's end", Shape.head(2).u1(2), 5, 10);
        doc.rightSoFar("a wrong character in a TEXT that is not all there", Shape.head(2).u1(1).u2(3).u1(0, 0));
        doc.judged("a wrong character in a TEXT that is there", Shape.head(2).u1(1).u2(3).u1(0, 0, 0), 6, 13);
        doc.rightSoFar("a LONG at the count that is not all there", Shape.head(2).u1(5).u4(0).u1(0, 0, 0));
        doc.judged("a LONG at the count that is there", Shape.head(2).u1(5).u4(0).u4(0), 7, 10);
    }

    private void orderOfEntries() {
        doc.says(TERMS, "After the pool, its entries in order:");
        doc.judged("an entry that is wrong, before the pool's end", Shape.head(4).u1(7).u2(1).text("A").u1(2), 5, 17);
        doc.rightSoFar("an entry that is wrong, and the pool not all there", Shape.head(4).u1(7).u2(1).text("A"));
        doc.judged("two that are wrong", Shape.head(4).u1(8).u2(1).text("a").u1(8).u2(1), 8, 10);
        doc.rightSoFar("an entry that names a later one", Shape.head(3).u1(7).u2(2).text("a"));
    }

    /** Numbers: 1 TEXT, 2 CLASS, 3 PAIR, 4 and 5 LONG, 6 what is asked; "()V" fits all names and types there. */
    private static Shape pool6() {
        return Shape.head(7).text("()V").u1(7).u2(1).u1(12).u2(1, 1).u1(5).u4(0, 0);
    }

    private void references() {
        doc.says(TERMS,
            "CLASS and STRING must name a TEXT, METHOD a CLASS and then a PAIR, PAIR two TEXTs: RULE 8 (the entry's tag).");
        for (int number : new int[] {0, 1, 2, 3, 4, 5, 6, 7, 8, 257, 0x8001, 0xFFFF}) {
            reference("CLASS of " + number, pool6().u1(7).u2(number), number == 1);
            reference("STRING of " + number, pool6().u1(8).u2(number), number == 1);
            reference("METHOD of CLASS " + number, pool6().u1(10).u2(number, 3), number == 2);
            reference("METHOD of PAIR " + number, pool6().u1(10).u2(2, number), number == 3);
            reference("PAIR of first " + number, pool6().u1(12).u2(number, 1), number == 1);
            reference("PAIR of second " + number, pool6().u1(12).u2(1, number), number == 1);
        }
        reference("METHOD of a PAIR and a CLASS", pool6().u1(10).u2(3, 2), false);
    }

    private void reference(String what, Shape shape, boolean right) {
        doc.judged(what, shape, right ? 1 : 8, right ? shape.size() : pool6().size());
    }

    private void namesOfClasses() {
        doc.says(TERMS, "Then, again in order: a CLASS's TEXT must be a CLASS NAME: RULE 9 (its tag);");
        doc.rightSoFar("CLASS a/b", Shape.head(3).text("a/b").u1(7).u2(1));
        doc.judged("CLASS a/", Shape.head(3).text("a/").u1(7).u2(1), 9, 15);
        doc.judged("CLASS of no byte", Shape.head(3).text("").u1(7).u2(1), 9, 13);
        doc.judged("RULE 8 of a later entry comes before", Shape.head(4).text("a.b").u1(7).u2(1).u1(8).u2(2), 8, 19);
        doc.judged("the first of two", Shape.head(4).u1(7).u2(3).u1(7).u2(3).text("/"), 9, 10);
        doc.judged("a CLASS before a PAIR", Shape.head(5).text("a/").u1(7).u2(1).u1(12).u2(1, 1).u1(7).u2(1), 9, 15);
        doc.judged("a PAIR before a CLASS", Shape.head(4).text("a/").u1(12).u2(1, 1).u1(7).u2(1), 9, 15);
        doc.rightSoFar("a STRING's TEXT may be any", Shape.head(5).text("").text("a/").u1(8).u2(1).u1(8).u2(2));
    }

    private static Shape pairOf(String name, String type) {
        return Shape.head(4).text(name).text(type).mark().u1(12).u2(1, 2);
    }

    private void namesOfPairs() {
        doc.says(TERMS,
            "a PAIR's first TEXT a MEMBER NAME: RULE 9, its second a METHOD TYPE: RULE 10 (its tag).");
        doc.rightSoFar("<init> ()V", pairOf("<init>", "()V"));
        String[][] wrong = {{"", "()V", "9"}, {"a<", "()V", "9"}, {"a", "", "10"}, {"a", "I", "10"}, {"a", "()", "10"},
            {"a/b", "I", "9"}};
        for (String[] w : wrong) {
            Shape shape = pairOf(w[0], w[1]);
            doc.judged("PAIR \"" + w[0] + "\", \"" + w[1] + "\"", shape, Integer.parseInt(w[2]), shape.marked());
        }
        doc.judged("RULE 10 of the first before RULE 9 of the second",
            Shape.head(5).text("a").text("").u1(12).u2(1, 2).u1(7).u2(2), 10, 17);
    }
}
