/** The promises 1 to 14, sentence by sentence, with the edges that each names. */
final class PromiseEdges {
    private static final int REFUSED = ClassShape.REFUSED;
    private static final int FULL = ClassShape.FULL;
    private static final int LEAST = Integer.MIN_VALUE;
    private static final int MOST = Integer.MAX_VALUE;

    private final Sentences doc;

    PromiseEdges(Sentences doc) {
        this.doc = doc;
    }

    void run() {
        lastCall();
        newObject();
        put();
        putFull();
        text();
        textFull();
        patch();
        cut();
        twice();
        twiceFull();
        clear();
        judge();
        place();
        noPlace();
        at();
        found();
        count();
    }

    private void lastCall() {
        doc.says("What it is",
            "An object is used for at most 512 calls after it has been made; what later calls answer is free.");
        ClassShape x = new ClassShape();
        for (int i = 1; i <= 511; i++) {
            x.judge();
        }
        doc.due("found(1) as 512th call", x.found(1), 511);
        ClassShape y = new ClassShape();
        for (int length = 1; length <= 400; length++) {
            y.put(1, 0xCA);
        }
        for (int i = 401; i <= 511; i++) {
            y.shrink();
        }
        doc.due("judge() as 512th call", y.judge(), 2);
    }

    private void newObject() {
        doc.says("Promise 1", "An empty FILE; nothing was judged.");
        ClassShape x = new ClassShape();
        doc.due("count(0)", x.count(0), 0);
        doc.due("at(0)", x.at(0), REFUSED);
        doc.due("patch(0, 1)", x.patch(0, 1), REFUSED);
        doc.due("cut(0, 1)", x.cut(0, 1), REFUSED);
        doc.due("twice(0, 1)", x.twice(0, 1), REFUSED);
        doc.due("clear()", x.clear(), 0);
        doc.due("place()", x.place(), REFUSED);
        for (int what = 0; what <= 6; what++) {
            doc.due("read(" + what + ")", x.read(what), 0);
        }
        for (int r = 0; r <= 28; r++) {
            doc.due("found(" + r + ")", x.found(r), 0);
        }
        doc.due("count(1)", x.count(1), 0);
        doc.due("count(2)", x.count(2), 0);
        x.put(4, 1);
        doc.due("a second object: count(0)", new ClassShape().count(0), 0);
    }

    private static ClassShape ofLength(int length) {
        ClassShape x = new ClassShape();
        for (int i = 0; i < length / 4; i++) {
            x.put(4, 0x11223344);
        }
        for (int i = 0; i < length % 4; i++) {
            x.put(1, 0x55);
        }
        return x;
    }

    private void put() {
        doc.says("Promise 2", "Puts value as U1, U2 or U4 (width 1, 2, 4; its low bits) at the FILE's end: how long it is.");
        ClassShape x = new ClassShape();
        doc.due("put(1, 0x1FF)", x.put(1, 0x1FF), 1);
        doc.due("put(1, -256)", x.put(1, -256), 2);
        doc.due("put(1, -1)", x.put(1, -1), 3);
        doc.due("put(1, 127)", x.put(1, 127), 4);
        doc.due("put(2, 0x12345)", x.put(2, 0x12345), 6);
        doc.due("put(2, -1)", x.put(2, -1), 8);
        doc.due("put(2, 0xFFFF0000)", x.put(2, 0xFFFF0000), 10);
        doc.due("put(4, the least)", x.put(4, LEAST), 14);
        doc.due("put(4, the greatest)", x.put(4, MOST), 18);
        doc.due("put(4, 0x01020304)", x.put(4, 0x01020304), 22);
        doc.bytes("low bits", x, 0xFF, 0, 0xFF, 127, 0x23, 0x45, 0xFF, 0xFF, 0, 0, 0x80, 0, 0, 0, 0x7F, 0xFF, 0xFF, 0xFF,
            1, 2, 3, 4);
        doc.says("Promise 2", "Another width: REFUSED.");
        for (int width : new int[] {0, 3, 5, 6, 8, -1, -2, -4, 257, 258, 260, 0x10001, LEAST, LEAST + 1, MOST}) {
            doc.due("put(" + width + ", 1)", x.put(width, 1), REFUSED);
            doc.due("put(" + width + ", 1), count(0)", x.count(0), 22);
        }
        doc.due("put(3, 1) of a FILE of 400 bytes", ofLength(400).put(3, 1), REFUSED);
        doc.due("put(0, 1) of a FILE of 400 bytes", ofLength(400).put(0, 1), REFUSED);
    }

    private void putFull() {
        doc.says("Promise 2", "There would be more than 400 bytes: FULL.");
        for (int length = 395; length <= 400; length++) {
            for (int width : new int[] {1, 2, 4}) {
                ClassShape x = ofLength(length);
                boolean fits = length + width <= 400;
                String call = "put(" + width + ", -1) at " + length;
                doc.due(call, x.put(width, -1), fits ? length + width : FULL);
                doc.due(call + ", count(0)", x.count(0), fits ? length + width : length);
                doc.due(call + ", at(" + length + ")", x.at(length), fits ? 255 : REFUSED);
            }
        }
        ClassShape x = ofLength(399);
        doc.due("put(2, 1) at 399", x.put(2, 1), FULL);
        doc.due("put(1, 1) after it", x.put(1, 1), 400);
        doc.due("put(1, 1) at 400", x.put(1, 1), FULL);
        doc.due("cut(0, 1)", x.cut(0, 1), 399);
        doc.due("put(1, 1) after it", x.put(1, 1), 400);
    }

    private void text() {
        doc.says("Promise 3", "Puts a pool entry TEXT at the end: tag, length and n (0 .. 8) bytes, "
            + "byte i being the bits 8 i .. 8 i + 7 of letters: how long the FILE is.");
        ClassShape x = new ClassShape();
        doc.due("text(0, -1)", x.text(0, -1L), 3);
        doc.due("text(1, 0x161)", x.text(1, 0x161L), 7);
        doc.due("text(2, -1)", x.text(2, -1L), 12);
        doc.bytes("text", x, 1, 0, 0, 1, 0, 1, 0x61, 1, 0, 2, 0xFF, 0xFF);
        for (int n = 0; n <= 8; n++) {
            ClassShape y = new ClassShape();
            doc.due("text(" + n + ", letters)", y.text(n, 0x8877665544332211L), 3 + n);
            for (int i = 0; i < n; i++) {
                doc.due("text(" + n + ", letters), at(" + (3 + i) + ")", y.at(3 + i), 0x11 * (i + 1));
            }
            doc.due("text(" + n + ", letters), at(" + (3 + n) + ")", y.at(3 + n), REFUSED);
        }
        doc.says("Promise 3", "n out of range: REFUSED.");
        for (int n : new int[] {-1, -8, 9, 16, 256, LEAST, MOST}) {
            doc.due("text(" + n + ", 1)", x.text(n, 1), REFUSED);
            doc.due("text(" + n + ", 1), count(0)", x.count(0), 12);
        }
        doc.due("text(9, 1) of a FILE of 400 bytes", ofLength(400).text(9, 1), REFUSED);
    }

    private void textFull() {
        doc.says("Promise 3", "FULL as in put.");
        for (int n = 0; n <= 8; n++) {
            doc.due("text(" + n + ", 1) with its last byte the 400th", ofLength(397 - n).text(n, 1), 400);
            ClassShape x = ofLength(398 - n);
            doc.due("text(" + n + ", 1) with a byte too many", x.text(n, 1), FULL);
            doc.due("text(" + n + ", 1) with a byte too many, count(0)", x.count(0), 398 - n);
            doc.due("text(" + n + ", 1) with a byte too many, at(its tag)", x.at(398 - n), REFUSED);
        }
        doc.due("text(0, 1) at 400", ofLength(400).text(0, 1), FULL);
    }

    private void patch() {
        doc.says("Promise 4", "Sets the byte at a place to the value's low eight bits: what it was.");
        ClassShape x = new ClassShape();
        x.put(4, 0x01FF0080);
        doc.due("patch(0, 256)", x.patch(0, 256), 1);
        doc.due("patch(1, 0x1AB)", x.patch(1, 0x1AB), 255);
        doc.due("patch(2, -1)", x.patch(2, -1), 0);
        doc.due("patch(3, the least)", x.patch(3, LEAST), 128);
        doc.bytes("patch", x, 0, 0xAB, 0xFF, 0);
        doc.due("patch(2, 128)", x.patch(2, 128), 255);
        doc.due("patch(2, 5)", x.patch(2, 5), 128);
        doc.due("patch(399, 5) of a FILE of 400 bytes", ofLength(400).patch(399, 5), 0x44);
        doc.says("Promise 4", "No such place: REFUSED.");
        for (int place : new int[] {-1, 4, 5, 399, 400, LEAST, MOST}) {
            doc.due("patch(" + place + ", 1)", x.patch(place, 1), REFUSED);
        }
        doc.bytes("patch refused", x, 0, 0xAB, 5, 0);
        doc.due("patch(400, 5) of a FILE of 400 bytes", ofLength(400).patch(400, 5), REFUSED);
        x.cut(3, 1);
        doc.due("patch(3, 1) when its byte was cut", x.patch(3, 1), REFUSED);
    }

    private static ClassShape oneToEight() {
        ClassShape x = new ClassShape();
        x.put(4, 0x01020304);
        x.put(4, 0x05060708);
        return x;
    }

    private void cut() {
        doc.says("Promise 5",
            "Takes n bytes, 1 or more, out from a place on, all behind moving up: how long the FILE is.");
        ClassShape x = oneToEight();
        doc.due("cut(0, 1)", x.cut(0, 1), 7);
        doc.bytes("cut(0, 1)", x, 2, 3, 4, 5, 6, 7, 8);
        doc.due("cut(6, 1)", x.cut(6, 1), 6);
        doc.bytes("cut(6, 1)", x, 2, 3, 4, 5, 6, 7);
        doc.due("cut(1, 3)", x.cut(1, 3), 3);
        doc.bytes("cut(1, 3)", x, 2, 6, 7);
        doc.due("at(3) behind", x.at(3), REFUSED);
        doc.due("put(1, 9) behind", x.put(1, 9), 4);
        doc.bytes("put(1, 9) behind", x, 2, 6, 7, 9);
        doc.due("cut(0, 4), all", x.cut(0, 4), 0);
        for (int n : new int[] {0, -1, -4, LEAST}) {
            doc.due("cut(2, " + n + ")", oneToEight().cut(2, n), REFUSED);
        }
        doc.due("cut(0, 400)", ofLength(400).cut(0, 400), 0);
        doc.due("cut(399, 1)", ofLength(400).cut(399, 1), 399);
        doc.says("Promise 5", "They are not all there: REFUSED.");
        int[][] refused = {{0, 9}, {7, 2}, {8, 1}, {9, 1}, {4, 5}, {-1, 1}, {-1, 2}, {-8, 8}, {400, 1}, {LEAST, 1}, {MOST, 1},
            {1, MOST}, {MOST, MOST}, {MOST, 2}, {LEAST, MOST}, {-1, MOST}, {0, MOST}};
        for (int[] r : refused) {
            ClassShape y = oneToEight();
            doc.due("cut(" + r[0] + ", " + r[1] + ")", y.cut(r[0], r[1]), REFUSED);
            doc.bytes("cut(" + r[0] + ", " + r[1] + ")", y, 1, 2, 3, 4, 5, 6, 7, 8);
        }
        doc.due("cut(0, 1) of none", new ClassShape().cut(0, 1), REFUSED);
        doc.due("cut(399, 2)", ofLength(400).cut(399, 2), REFUSED);
    }

    private void twice() {
        doc.says("Promise 6", "Puts a copy of the n bytes from a place on right behind them: how long the FILE is.");
        ClassShape x = new ClassShape();
        x.put(4, 0x01020304);
        doc.due("twice(0, 1)", x.twice(0, 1), 5);
        doc.bytes("twice(0, 1)", x, 1, 1, 2, 3, 4);
        doc.due("twice(4, 1)", x.twice(4, 1), 6);
        doc.bytes("twice(4, 1)", x, 1, 1, 2, 3, 4, 4);
        doc.due("twice(1, 3)", x.twice(1, 3), 9);
        doc.bytes("twice(1, 3)", x, 1, 1, 2, 3, 1, 2, 3, 4, 4);
        doc.due("twice(0, 9), all", x.twice(0, 9), 18);
        doc.bytes("twice(0, 9)", x, 1, 1, 2, 3, 1, 2, 3, 4, 4, 1, 1, 2, 3, 1, 2, 3, 4, 4);
        doc.says("Promise 6", "They are not all there, or n is below 1: REFUSED.");
        int[][] refused = {{0, 0}, {2, -1}, {0, LEAST}, {0, 9}, {7, 2}, {8, 1}, {9, 1}, {4, 5}, {-1, 1}, {-1, 2}, {400, 1},
            {LEAST, 1}, {MOST, 1}, {1, MOST}, {MOST, MOST}, {LEAST, LEAST}, {LEAST, MOST}, {-1, MOST}, {8, 0}};
        for (int[] r : refused) {
            ClassShape y = oneToEight();
            doc.due("twice(" + r[0] + ", " + r[1] + ")", y.twice(r[0], r[1]), REFUSED);
            doc.bytes("twice(" + r[0] + ", " + r[1] + ")", y, 1, 2, 3, 4, 5, 6, 7, 8);
        }
        doc.due("twice(0, 1) of none", new ClassShape().twice(0, 1), REFUSED);
        doc.due("twice(399, 2) of a FILE of 400 bytes", ofLength(400).twice(399, 2), REFUSED);
        doc.due("twice(0, 0) of a FILE of 400 bytes", ofLength(400).twice(0, 0), REFUSED);
        doc.due("twice(400, 1) of a FILE of 400 bytes", ofLength(400).twice(400, 1), REFUSED);
    }

    private void twiceFull() {
        doc.says("Promise 6", "FULL as in put.");
        int[][] cases = {{200, 0, 200, 400}, {201, 0, 200, FULL}, {201, 0, 199, 400}, {399, 0, 1, 400}, {399, 398, 1, 400},
            {399, 0, 2, FULL}, {399, 0, 399, FULL}, {400, 0, 1, FULL}, {400, 399, 1, FULL}, {400, 0, 400, FULL}};
        for (int[] c : cases) {
            ClassShape x = ofLength(c[0]);
            String call = "twice(" + c[1] + ", " + c[2] + ") at " + c[0];
            doc.due(call, x.twice(c[1], c[2]), c[3]);
            doc.due(call + ", count(0)", x.count(0), c[3] == FULL ? c[0] : 400);
            doc.due(call + ", at(399)", x.at(399), c[0] == 400 || c[0] == 200 ? 0x44 : c[3] == FULL ? REFUSED : 0x55);
        }
    }

    private void clear() {
        doc.says("Promise 7", "The FILE is empty. How long it was.");
        for (int length : new int[] {0, 1, 399, 400}) {
            ClassShape x = ofLength(length);
            doc.due("clear() of " + length, x.clear(), length);
            doc.due("clear() of " + length + ", count(0)", x.count(0), 0);
            doc.due("clear() of " + length + ", at(0)", x.at(0), REFUSED);
            doc.due("clear() again", x.clear(), 0);
            doc.due("put(4, 0x01020304) after it", x.put(4, 0x01020304), 4);
            doc.bytes("put(4, 0x01020304) after it", x, 1, 2, 3, 4);
        }
        ClassShape x = ofLength(4);
        x.judge();
        x.clear();
        doc.due("the last judging stays: place()", x.place(), 0);
        doc.due("what was found stays: found(2)", x.found(2), 1);
        doc.due("the judgings stay: count(2)", x.count(2), 1);
        doc.due("judge() of none", x.judge(), 1);
    }

    /** For each of the RULES 2 to 27 a place in Shape.whole, the value there that breaks it, and the RULE's place. */
    private static int[][] breaks() {
        Shape w = Shape.whole();
        int letter = w.tagOf(Shape.A) + 3;
        return new int[][] {{2, 3, 0, 0}, {3, 7, 70, 6}, {4, 9, 0, 8}, {5, 10, 2, 10}, {6, letter, 0x80, letter},
            {7, 9, Shape.SECOND_OF_LONG, w.tagOf(Shape.LONG)}, {8, w.tagOf(Shape.CLASS_A) + 2, 2, w.tagOf(Shape.CLASS_A)},
            {9, letter, '/', w.tagOf(Shape.CLASS_A)}, {10, w.tagOf(Shape.TO_VOID) + 5, 'X', w.tagOf(Shape.PAIR)},
            {11, w.place("flags"), 2, w.place("flags")}, {12, w.place("this") + 1, Shape.A, w.place("this")},
            {13, w.place("interface") + 1, Shape.CLASS_M, w.place("interface")},
            {14, w.place("field") + 1, 3, w.place("field")}, {15, w.place("field") + 3, Shape.CLASS_A, w.place("field") + 2},
            {16, w.place("field") + 5, Shape.M, w.place("field") + 4},
            {17, w.place("second field") + 3, Shape.M, w.place("second field") + 2},
            {18, w.place("constant") + 7, Shape.A, w.place("constant")},
            {19, w.place("second attribute") + 1, Shape.CODE, w.place("second attribute")},
            {20, w.place("code") + 5, 34, w.place("code")}, {21, w.place("method"), 1, w.place("method")},
            {22, w.place("length") + 3, 0, w.place("length")}, {23, w.place("load"), 2, w.place("load")},
            {24, w.place("load") + 1, 2, w.place("load")}, {25, w.place("jump") + 2, 1, w.place("jump")},
            {26, w.place("return"), 0, w.place("return")}, {27, w.place("handler") + 1, 1, w.place("handler")}};
    }

    private void judge() {
        doc.says("Promise 8", "JUDGES the FILE: 0 if no RULE is broken, else the RULE.");
        ClassShape x = Shape.whole().load();
        int length = x.count(0);
        doc.due("judge() of a right class", x.judge(), 0);
        for (int[] b : breaks()) {
            String call = "patch(" + b[1] + ", " + b[2] + ")";
            int before = x.patch(b[1], b[2]);
            doc.due(call + ", judge()", x.judge(), b[0]);
            doc.due(call + ", place()", x.place(), b[3]);
            x.patch(b[1], before);
        }
        x.put(1, 0);
        doc.due("judge() with a byte more", x.judge(), 28);
        doc.due("place() with a byte more", x.place(), length);
        x.cut(length - 1, 2);
        doc.due("judge() with a byte less", x.judge(), 1);
        doc.due("place() with a byte less", x.place(), length - 1);
        x.put(1, 0);
        doc.due("judge() when mended", x.judge(), 0);
        for (int r = 0; r <= 28; r++) {
            doc.due("found(" + r + ")", x.found(r), r == 0 ? 2 : 1);
        }
        doc.due("count(1)", x.count(1), 28);
        doc.due("count(2)", x.count(2), 30);
        doc.due("judge() changes no byte: count(0)", x.count(0), length);
        x.put(1, 0);
        x.shrink();
        x.clear();
        for (int r = 0; r <= 28; r++) {
            doc.due("found(" + r + ") after shrink() and clear()", x.found(r), r == 0 ? 2 : 1);
        }
    }

    private void place() {
        doc.says("Promise 9", "The place of the last judging's broken RULE;");
        ClassShape x = new ClassShape();
        x.judge();
        doc.due("place() of no byte", x.place(), 0);
        x.put(4, Shape.MAGIC);
        doc.due("place() stays till it is judged", x.place(), 0);
        x.judge();
        doc.due("place() of four bytes", x.place(), 4);
        x.patch(0, 0);
        x.judge();
        doc.due("place() 0 of RULE 2", x.place(), 0);
        x.clear();
        doc.due("place() after clear()", x.place(), 0);
        ClassShape full = Shape.head(2).u1(1).u2(65535).load();
        for (int i = 13; i < 400; i++) {
            full.put(1, 'a');
        }
        full.judge();
        doc.due("place() of RULE 1 in a FILE of 400 bytes", full.place(), 400);
        doc.due("place() told again", full.place(), 400);
    }

    private void noPlace() {
        doc.says("Promise 9", "REFUSED if none was broken, or none was judged.");
        doc.due("place() of a new object", new ClassShape().place(), REFUSED);
        ClassShape x = Shape.whole().load();
        doc.due("place() before it is judged", x.place(), REFUSED);
        x.judge();
        doc.due("place() of a right class", x.place(), REFUSED);
        x.put(1, 0);
        doc.due("place() before it is judged again", x.place(), REFUSED);
        x.judge();
        x.cut(x.count(0) - 1, 1);
        x.judge();
        doc.due("place() of a class that was mended", x.place(), REFUSED);
        x.patch(0, 0);
        x.judge();
        x.patch(0, 0xCA);
        x.shrink();
        doc.due("place() of a right class after shrink()", x.place(), REFUSED);
    }

    private void at() {
        doc.says("Promise 11", "The FILE's byte at a place; REFUSED if there is none.");
        ClassShape x = new ClassShape();
        doc.due("at(0) of none", x.at(0), REFUSED);
        x.put(4, 0x00FF7F80);
        doc.bytes("at", x, 0, 255, 127, 128);
        for (int place : new int[] {-1, -2, 4, 5, 256, 399, 400, LEAST, MOST}) {
            doc.due("at(" + place + ")", x.at(place), REFUSED);
        }
        x.cut(0, 1);
        doc.due("at(3) after cut(0, 1)", x.at(3), REFUSED);
        doc.due("at(2) after cut(0, 1)", x.at(2), 128);
        ClassShape full = ofLength(400);
        doc.due("at(399) of 400", full.at(399), 0x44);
        doc.due("at(400) of 400", full.at(400), REFUSED);
    }

    private void found() {
        doc.says("Promise 13",
            "How often judge found RULE r, 0 .. 28 (0 for none), since the beginning (shrink's own do not count);");
        ClassShape x = Shape.whole().load();
        x.judge();
        x.judge();
        x.put(1, 0);
        x.judge();
        x.shrink();
        x.clear();
        x.shrink();
        x.judge();
        doc.due("found(0)", x.found(0), 2);
        doc.due("found(28)", x.found(28), 1);
        doc.due("found(1)", x.found(1), 1);
        for (int r = 2; r <= 27; r++) {
            doc.due("found(" + r + ")", x.found(r), 0);
        }
        doc.says("Promise 13", "REFUSED for another r.");
        for (int r : new int[] {-1, 29, 30, 256, LEAST, MOST}) {
            doc.due("found(" + r + ")", x.found(r), REFUSED);
        }
    }

    private void count() {
        ClassShape x = new ClassShape();
        doc.says("Promise 14", "0: the FILE's length;");
        doc.due("count(0) of none", x.count(0), 0);
        doc.due("count(0) of 400", ofLength(400).count(0), 400);
        doc.says("Promise 14", "1: how many of the RULES 1 .. 28 judge found at least once;");
        ClassShape right = Shape.whole().load();
        right.judge();
        doc.due("count(1) when no RULE was broken", right.count(1), 0);
        x.shrink();
        doc.due("count(1) after shrink()", x.count(1), 0);
        x.judge();
        x.judge();
        doc.due("count(1) after RULE 1 twice", x.count(1), 1);
        right.put(1, 0);
        right.judge();
        doc.due("count(1) after RULE 28", right.count(1), 1);
        right.clear();
        right.judge();
        doc.due("count(1) after RULES 28 and 1", right.count(1), 2);
        doc.says("Promise 14", "2: judgings by judge.");
        doc.due("count(2) after shrink() and two judge()", x.count(2), 2);
        doc.due("count(2) after three judge()", right.count(2), 3);
        doc.says("Promise 14", "Else REFUSED.");
        for (int what : new int[] {-1, 3, 4, 256, LEAST, MOST}) {
            doc.due("count(" + what + ")", x.count(what), REFUSED);
        }
    }
}
