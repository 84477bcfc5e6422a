/** Promise 10, sentence by sentence, with the edges that it names. */
final class ShrinkEdges {
    private static final String PROMISE = "Promise 10";

    private final Sentences doc;

    ShrinkEdges(Sentences doc) {
        this.doc = doc;
    }

    void run() {
        isJudged();
        sizes();
        places();
        sameRule();
        howMany();
        noneBroken();
        lastJudging();
    }

    private void isJudged() {
        doc.says(PROMISE, "Cuts the FILE down: it is JUDGED; if a RULE is broken:");
        ClassShape x = new ClassShape();
        doc.due("shrink() of no byte", x.shrink(), 0);
        doc.due("place() of RULE 1", x.place(), 0);
        ClassShape y = Shape.whole().load();
        y.judge();
        y.patch(0, 0);
        doc.due("shrink() of a FILE that was right when it was judged", y.shrink(), Shape.whole().size() - 4);
        y.clear();
        y.put(4, Shape.MAGIC);
        doc.due("shrink() of a FILE that broke RULE 2 when it was judged, and RULE 1 now", y.shrink(), 4);
    }

    /** A pool of two entries: a TEXT of so many bytes with its head, its letters tags of an INT, and a tag that is none. */
    private static Shape unit(int size) {
        return Shape.head(3).text("\u0003".repeat(size - 3)).u1(2);
    }

    private void sizes() {
        doc.says(PROMISE, "for n = 32, 16, 8, 4, 2, 1");
        for (int n : new int[] {32, 16, 8, 4}) {
            // Taken out as a whole, the TEXT leaves the tag 2; in smaller pieces it would leave its own bytes there.
            ClassShape x = unit(n).load();
            doc.due("shrink() of a TEXT of " + n, x.shrink(), n);
            doc.bytes("shrink() of a TEXT of " + n, x, 0xCA, 0xFE, 0xBA, 0xBE, 0, 0, 0, 52, 0, 3, 2);
        }
        // n = 2 takes the tag and the length's first byte, so that its second, 2, is the tag; n = 1 takes all behind it.
        ClassShape two = unit(5).load();
        doc.due("shrink() of a TEXT of 5", two.shrink(), 5);
        doc.bytes("shrink() of a TEXT of 5", two, 0xCA, 0xFE, 0xBA, 0xBE, 0, 0, 0, 52, 0, 3, 2);
        // n = 1 alone can take something: the tag, so that the length's first byte, 0, is one.
        ClassShape one = unit(6).load();
        doc.due("shrink() of a TEXT of 6", one.shrink(), 1);
        doc.bytes("shrink() of a TEXT of 6", one, 0xCA, 0xFE, 0xBA, 0xBE, 0, 0, 0, 52, 0, 3, 0, 3, 3, 3, 3, 2);
    }

    /** A FILE of RULE 2 whose bytes are all different. */
    private static ClassShape counted(int length) {
        ClassShape x = new ClassShape();
        for (int i = 0; i < length; i++) {
            x.put(1, i);
        }
        return x;
    }

    /** The first bytes of a class whose one TEXT is longer than any FILE. */
    private static Shape notAllThere(int length) {
        Shape shape = Shape.head(2).u1(1).u2(65535).letters("a".repeat(387));
        return shape.without(shape.size() - length);
    }

    private void places() {
        doc.says(PROMISE, "and for each place p from the FILE's length (when n comes) - n down to 0 the n bytes from p on are "
            + "taken out, if they are there");
        for (int length : new int[] {4, 5, 6, 7, 8, 31, 32, 33, 35, 36, 37, 64, 67, 68, 255}) {
            // From the end on, all but the first four go: fewer would be RULE 1.
            ClassShape x = counted(length);
            doc.due("shrink() of " + length + " bytes of RULE 2", x.shrink(), length - 4);
            doc.bytes("shrink() of " + length + " bytes of RULE 2", x, 0, 1, 2, 3);
        }
        for (int length : new int[] {1, 2, 3, 31, 32, 33, 399, 400}) {
            // Down to place 0: of RULE 1, no byte is left.
            ClassShape x = notAllThere(length).load();
            doc.due("shrink() of " + length + " bytes of RULE 1", x.shrink(), length);
            doc.due("shrink() of " + length + " bytes of RULE 1, count(0)", x.count(0), 0);
        }
        // The place 12 came before the byte at 10 was taken out, and comes no second time with n = 1.
        ClassShape again = unit(6).load();
        again.shrink();
        doc.due("shrink() once more", again.shrink(), 5);
    }

    /** The right class that has the fewest bytes. */
    private static Shape least() {
        return Shape.head(3).text("A").u1(7).u2(1).u2(0, 2, 2, 0, 0, 0, 0);
    }

    private void sameRule() {
        doc.says(PROMISE, "and the FILE without them breaks the same RULE (at any place).");
        ClassShape x = Shape.head(3).text("ab").u1(2).load();
        x.judge();
        doc.due("place() of RULE 5 behind a TEXT", x.place(), 15);
        doc.due("shrink() of it", x.shrink(), 5);
        doc.due("judge() of what is left", x.judge(), 5);
        doc.due("place() of what is left", x.place(), 10);
        ClassShape three = new Shape().u4(Shape.MAGIC).u2(0, 70).load();
        doc.due("shrink() where another RULE would be broken", three.shrink(), 0);
        doc.due("count(0) after it", three.count(0), 8);
        ClassShape behind = least().u1(9).load();
        doc.due("shrink() where another RULE or none would be broken", behind.shrink(), 0);
        doc.due("judge() after it", behind.judge(), 28);
    }

    private void howMany() {
        doc.says(PROMISE, "How many bytes went.");
        ClassShape x = Shape.toMethods().u2(0, 0).u1(9, 8, 7).load();
        doc.due("shrink() of three bytes behind", x.shrink(), 2);
        doc.due("count(0)", x.count(0), Shape.toMethods().size() + 5);
        doc.due("at(the last), the first of them", x.at(x.count(0) - 1), 9);
        doc.due("shrink() again", x.shrink(), 0);
        ClassShape full = Shape.head(1).u2(1, 0).u1(new int[386]).load();
        doc.due("shrink() of RULE 12 in a FILE of 400 bytes", full.shrink(), 386);
        doc.bytes("shrink() of RULE 12 in a FILE of 400 bytes", full, 0xCA, 0xFE, 0xBA, 0xBE, 0, 0, 0, 52, 0, 1, 0, 1, 0, 0);
    }

    private void noneBroken() {
        doc.says(PROMISE, "(No RULE broken: 0.)");
        Shape most = Shape.toMethods().u2(0, 1, Shape.A);
        int rest = 400 - most.size() - 4;
        most.u4(rest).u1(new int[rest]);
        // Without the two bytes "00 02" of its attribute's length, this class is right too.
        Shape less = least().without(2).u2(1, 1).u4(2).u2(0);
        for (Shape shape : new Shape[] {least(), less, most}) {
            ClassShape x = shape.load();
            doc.due("shrink() of a right class of " + shape.size(), x.shrink(), 0);
            doc.due("count(0) after it", x.count(0), shape.size());
            doc.due("judge() after it", x.judge(), 0);
        }
    }

    private void lastJudging() {
        doc.says(PROMISE, "The last judging is then that of the FILE that is left.");
        ClassShape x = Shape.withPool().u2(1, Shape.A, 0, 0, 0, 0).load();
        x.judge();
        doc.due("read(0) of the whole FILE", x.read(0), 15);
        x.shrink();
        doc.due("read(0) after shrink()", x.read(0), 0);
        doc.due("place() after shrink()", x.place(), 12);
        ClassShape right = Shape.whole().load();
        right.patch(0, 0);
        right.judge();
        right.patch(0, 0xCA);
        right.shrink();
        doc.due("read(0) after shrink() of a right class", right.read(0), 15);
        doc.due("read(3) after shrink() of a right class", right.read(3), 3);
        doc.due("place() after shrink() of a right class", right.place(), ClassShape.REFUSED);
        doc.due("found(2) after shrink()", right.found(2), 1);
        doc.due("count(2) after shrink()", right.count(2), 1);
        // The last try, n = 1 at place 0, was taken back, as it has no magic; what it read is not told.
        ClassShape behind = Shape.whole().u1(0).load();
        behind.shrink();
        int[] told = new int[7];
        for (int what = 0; what < told.length; what++) {
            told[what] = behind.read(what);
        }
        int place = behind.place();
        doc.due("read(0) after shrink()", told[0] > 0);
        behind.judge();
        for (int what = 0; what < told.length; what++) {
            doc.due("read(" + what + ") after shrink() and after judge()", told[what], behind.read(what));
        }
        doc.due("place() after shrink() and after judge()", place, behind.place());
    }
}
