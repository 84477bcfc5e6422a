/** Promises 1 to 14, call by call. */
public final class CallsTest {
    private static final Checks checks = new Checks();

    public static void main(String[] args) {
        newObject();
        put();
        text();
        patch();
        cut();
        twice();
        clear();
        judgeAndPlace();
        shrink();
        shrinkOfEveryRight();
        at();
        read();
        foundAndCount();
        refusedCallsChangeNothing();
        checks.finish("CallsTest");
    }

    private static void due(String call, long got, long want) {
        checks.due(call, got, want);
    }

    private static void newObject() {
        ClassShape x = new ClassShape();
        due("new: count(0)", x.count(0), 0);
        due("new: count(1)", x.count(1), 0);
        due("new: count(2)", x.count(2), 0);
        due("new: place", x.place(), -1);
        due("new: at(0)", x.at(0), -1);
        for (int i = 0; i <= 6; i++) {
            due("new: read", x.read(i), 0);
        }
        for (int r = 0; r <= 28; r++) {
            due("new: found", x.found(r), 0);
        }
        due("REFUSED", ClassShape.REFUSED, -1);
        due("FULL", ClassShape.FULL, -2);
    }

    private static void put() {
        ClassShape x = new ClassShape();
        due("put U1", x.put(1, 0x1FE), 1);
        due("put U2", x.put(2, 0xABCDE), 3);
        due("put U4", x.put(4, 0x81020304), 7);
        int[] wants = {0xFE, 0xBC, 0xDE, 0x81, 0x02, 0x03, 0x04};
        for (int i = 0; i < wants.length; i++) {
            due("put: at(" + i + ")", x.at(i), wants[i]);
        }
        for (int width : new int[] {0, 3, 5, 8, -1, -4, Integer.MIN_VALUE, Integer.MAX_VALUE}) {
            due("put(" + width + ", 1)", x.put(width, 1), -1);
        }
        due("put: count(0)", x.count(0), 7);
        due("put -1", x.put(1, -1), 8);
        due("put -1: at", x.at(7), 255);

        ClassShape full = ofLength(397);
        due("put at 397 of width 4", full.put(4, 1), -2);
        due("put at 397 of width 2", full.put(2, 1), 399);
        due("put at 399 of width 2", full.put(2, 1), -2);
        due("put at 399 of width 1", full.put(1, 7), 400);
        due("put at 400 of width 1", full.put(1, 1), -2);
        due("put at 400 of width 3", full.put(3, 1), -1);
        due("put at 400: at(399)", full.at(399), 7);
        due("put at 400: count(0)", full.count(0), 400);
    }

    private static ClassShape ofLength(int length) {
        ClassShape x = new ClassShape();
        while (x.count(0) + 4 <= length) {
            x.put(4, 0);
        }
        while (x.count(0) < length) {
            x.put(1, 0);
        }
        return x;
    }

    private static void text() {
        ClassShape x = new ClassShape();
        due("text(8)", x.text(8, 0x8877665544332211L), 11);
        due("text(0)", x.text(0, -1L), 14);
        due("text(2)", x.text(2, 0xFFFFFFFFFFFF0201L), 19);
        int[] wants = {1, 0, 8, 0x11, 0x22, 0x33, 0x44, 0x55, 0x66, 0x77, 0x88, 1, 0, 0, 1, 0, 2, 1, 2};
        for (int i = 0; i < wants.length; i++) {
            due("text: at(" + i + ")", x.at(i), wants[i]);
        }
        for (int n : new int[] {-1, 9, Integer.MIN_VALUE, Integer.MAX_VALUE}) {
            due("text(" + n + ")", x.text(n, 1), -1);
        }
        due("text: count(0)", x.count(0), 19);
        ClassShape full = ofLength(390);
        due("text(8) at 390", full.text(8, 1), -2);
        due("text(9) at 390", full.text(9, 1), -1);
        due("text(7) at 390", full.text(7, 1), 400);
        due("text(0) at 400", full.text(0, 1), -2);
        ClassShape nearlyFull = ofLength(398);
        due("text(0) at 398", nearlyFull.text(0, 1), -2);
        due("text(0) at 398: count(0)", nearlyFull.count(0), 398);
    }

    private static void patch() {
        ClassShape x = new ClassShape();
        due("patch of none", x.patch(0, 1), -1);
        x.put(4, 0x01FF0304);
        due("patch(1)", x.patch(1, 0x7AB), 255);
        due("patch(1): at", x.at(1), 0xAB);
        due("patch(0, -1)", x.patch(0, -1), 1);
        due("patch(0): at", x.at(0), 255);
        due("patch(3)", x.patch(3, 9), 4);
        for (int place : new int[] {4, -1, 399, 400, Integer.MIN_VALUE, Integer.MAX_VALUE}) {
            due("patch(" + place + ")", x.patch(place, 1), -1);
        }
        due("patch: count(0)", x.count(0), 4);
    }

    private static void cut() {
        ClassShape x = new ClassShape();
        x.put(4, 0x01020304);
        x.put(4, 0x05060708);
        due("cut(2, 3)", x.cut(2, 3), 5);
        due("cut: bytes", x.at(0) << 24 | x.at(1) << 16 | x.at(2) << 8 | x.at(3), 0x01020607);
        due("cut: last", x.at(4), 8);
        due("cut: behind", x.at(5), -1);
        int[][] refused = {{0, 0}, {0, -1}, {0, 6}, {5, 1}, {4, 2}, {-1, 1}, {-1, 3}, {Integer.MIN_VALUE, 1},
            {1, Integer.MAX_VALUE}, {Integer.MAX_VALUE, Integer.MAX_VALUE}, {Integer.MAX_VALUE, 1},
            {0, Integer.MIN_VALUE}, {Integer.MIN_VALUE, Integer.MIN_VALUE}};
        for (int[] r : refused) {
            due("cut(" + r[0] + ", " + r[1] + ")", x.cut(r[0], r[1]), -1);
        }
        due("cut: count(0)", x.count(0), 5);
        due("cut(4, 1)", x.cut(4, 1), 4);
        due("cut(0, 4)", x.cut(0, 4), 0);
        due("cut of none", x.cut(0, 1), -1);
    }

    private static void twice() {
        ClassShape x = new ClassShape();
        x.put(4, 0x01020304);
        due("twice(1, 2)", x.twice(1, 2), 6);
        int[] wants = {1, 2, 3, 2, 3, 4};
        for (int i = 0; i < wants.length; i++) {
            due("twice: at(" + i + ")", x.at(i), wants[i]);
        }
        int[][] refused = {{0, 0}, {0, -1}, {0, 7}, {6, 1}, {-1, 2}, {Integer.MIN_VALUE, 1},
            {1, Integer.MAX_VALUE}, {Integer.MAX_VALUE, 1}, {400, 1}};
        for (int[] r : refused) {
            due("twice(" + r[0] + ", " + r[1] + ")", x.twice(r[0], r[1]), -1);
        }
        due("twice(0, 6)", x.twice(0, 6), 12);
        due("twice: at(11)", x.at(11), 4);
        due("twice: at(6)", x.at(6), 1);

        ClassShape half = ofLength(200);
        due("twice(0, 200)", half.twice(0, 200), 400);
        due("twice at 400", half.twice(0, 1), -2);
        due("twice at 400 of too many", half.twice(399, 2), -1);
        ClassShape most = ofLength(399);
        due("twice(0, 2) at 399", most.twice(0, 2), -2);
        due("twice(398, 1) at 399", most.twice(398, 1), 400);
    }

    private static void clear() {
        ClassShape x = new ClassShape();
        due("clear of none", x.clear(), 0);
        x.put(4, 1);
        x.judge();
        due("clear", x.clear(), 4);
        due("clear: count(0)", x.count(0), 0);
        due("clear: at(0)", x.at(0), -1);
        due("clear: place stays", x.place(), 0);
        due("clear: found stays", x.found(2), 1);
        due("clear: count(2) stays", x.count(2), 1);
        due("clear: put again", x.put(2, 0x0102), 2);
        due("clear: at(1)", x.at(1), 2);
    }

    private static void judgeAndPlace() {
        ClassShape x = Shape.toMethods().u2(0, 0).load();
        due("judge", x.judge(), 0);
        due("place of none broken", x.place(), -1);
        due("read(0)", x.read(0), Shape.COUNT - 1);
        int length = x.count(0);
        x.put(1, 0);
        due("place before it is judged again", x.place(), -1);
        due("judge with one more", x.judge(), 28);
        due("place with one more", x.place(), length);
        x.cut(length - 1, 2);
        due("place stays till it is judged", x.place(), length);
        due("judge with one less", x.judge(), 1);
        due("place with one less", x.place(), length - 1);
        x.put(1, 0);
        due("judge when mended", x.judge(), 0);
        due("place when mended", x.place(), -1);
    }

    private static void shrink() {
        ClassShape x = new ClassShape();
        due("shrink of none", x.shrink(), 0);
        due("shrink of none: place", x.place(), 0);
        due("shrink of none: count(2)", x.count(2), 0);
        due("shrink of none: found(1)", x.found(1), 0);
        x.put(4, 1);
        x.put(4, 2);
        due("shrink of RULE 2", x.shrink(), 4);
        due("shrink of RULE 2: count(0)", x.count(0), 4);
        // The last four go at n = 4, p = 4; after it, none can go without RULE 1.
        due("shrink of RULE 2: at(3)", x.at(3), 1);
        due("shrink of RULE 2: place", x.place(), 0);
        x.clear();
        x.put(4, Shape.MAGIC);
        due("shrink of RULE 1", x.shrink(), 4);
        due("shrink of RULE 1: count(0)", x.count(0), 0);
        due("shrink of RULE 1: place", x.place(), 0);
        due("shrink again", x.shrink(), 0);

        ClassShape behind = Shape.toMethods().u2(0, 0).u1(9, 8, 7).load();
        due("shrink of RULE 28", behind.shrink(), 2);
        due("shrink of RULE 28: judge", behind.judge(), 28);
        due("shrink of RULE 28: place", behind.place(), behind.count(0) - 1);
        due("shrink of RULE 28: found(28)", behind.found(28), 1);
        due("shrink of RULE 28: count(1)", behind.count(1), 1);
    }

    private static void shrinkOfEveryRight() {
        ClassShape x = Shape.toMethods().u2(0, 0).load();
        int length = x.count(0);
        due("shrink of a right one", x.shrink(), 0);
        due("shrink of a right one: count(0)", x.count(0), length);
        due("shrink of a right one: place", x.place(), -1);
        due("shrink of a right one: read(0)", x.read(0), Shape.COUNT - 1);
        due("shrink of a right one: found(0)", x.found(0), 0);
        x.patch(0, 0);
        x.judge();
        x.patch(0, 0xCA);
        due("shrink of a mended one", x.shrink(), 0);
        due("shrink of a mended one: place", x.place(), -1);
        due("shrink of a mended one: read(0)", x.read(0), Shape.COUNT - 1);

        // RULE 12 at this: what is left is a head, no entries, flags and a number of none.
        ClassShape y = Shape.withPool().u2(1, Shape.A, 0, 0, 0, 0).load();
        y.shrink();
        due("shrink of RULE 12: judge", y.judge(), 12);
        due("shrink of RULE 12: count(0)", y.count(0), 14);
        due("shrink of RULE 12: read(0)", y.read(0), 0);
        due("shrink of RULE 12: place", y.place(), 12);
    }

    private static void at() {
        ClassShape x = new ClassShape();
        x.put(2, 0xFF01);
        due("at(0)", x.at(0), 255);
        due("at(1)", x.at(1), 1);
        for (int place : new int[] {2, -1, 400, Integer.MIN_VALUE, Integer.MAX_VALUE}) {
            due("at(" + place + ")", x.at(place), -1);
        }
    }

    private static void read() {
        ClassShape x = Shape.toMethods().u2(0, 0).load();
        for (int i = 0; i <= 6; i++) {
            due("read before it is judged", x.read(i), 0);
        }
        x.judge();
        due("read(0)", x.read(0), Shape.COUNT - 1);
        for (int what : new int[] {7, -1, 100, Integer.MIN_VALUE, Integer.MAX_VALUE}) {
            due("read(" + what + ")", x.read(what), -1);
        }
        x.clear();
        due("read stays till it is judged", x.read(0), Shape.COUNT - 1);
        x.judge();
        due("read of the next judging", x.read(0), 0);
    }

    private static void foundAndCount() {
        ClassShape x = new ClassShape();
        x.judge();
        x.judge();
        x.put(4, 3);
        x.judge();
        x.shrink();
        due("found(1)", x.found(1), 2);
        due("found(2)", x.found(2), 1);
        due("found(0)", x.found(0), 0);
        due("count(1)", x.count(1), 2);
        due("count(2)", x.count(2), 3);
        for (int r : new int[] {-1, 29, Integer.MIN_VALUE, Integer.MAX_VALUE}) {
            due("found(" + r + ")", x.found(r), -1);
        }
        due("found(28)", x.found(28), 0);
        for (int what : new int[] {-1, 3, Integer.MIN_VALUE, Integer.MAX_VALUE}) {
            due("count(" + what + ")", x.count(what), -1);
        }
        ClassShape y = Shape.toMethods().u2(0, 0).load();
        y.judge();
        due("found(0) of a right one", y.found(0), 1);
        due("count(1) of a right one", y.count(1), 0);
        due("count(2) of a right one", y.count(2), 1);
    }

    private static void refusedCallsChangeNothing() {
        ClassShape x = ofLength(400);
        x.patch(399, 5);
        x.judge();
        x.put(3, 1);
        x.put(1, 1);
        x.text(9, 1);
        x.text(8, 1);
        x.patch(400, 1);
        x.cut(399, 2);
        x.cut(0, 0);
        x.twice(0, 1);
        x.twice(0, 0);
        x.found(29);
        x.count(3);
        x.read(7);
        due("refused: count(0)", x.count(0), 400);
        due("refused: at(399)", x.at(399), 5);
        due("refused: place", x.place(), 0);
        due("refused: found(2)", x.found(2), 1);
        due("refused: count(2)", x.count(2), 1);
    }
}
