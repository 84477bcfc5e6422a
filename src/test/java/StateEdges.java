import java.util.ArrayList;
import java.util.List;

/** What each call leaves as it is: of the FILE, of the last judging, and of what judge has found. */
final class StateEdges {
    private static final int REFUSED = ClassShape.REFUSED;
    private static final int FULL = ClassShape.FULL;

    private final Sentences doc;

    StateEdges(Sentences doc) {
        this.doc = doc;
    }

    void run() {
        together();
        sideBySide();
        refusedCalls();
        callsOnTheFile();
        judgings();
        askingCalls();
        behindTheLastCall();
        free();
    }

    /** All that can be asked of an object, in 441 calls. */
    private record Told(List<Integer> file, List<Integer> judging, List<Integer> found) { }

    private static Told told(ClassShape x) {
        Told told = new Told(new ArrayList<>(), new ArrayList<>(), new ArrayList<>());
        for (int place = 0; place <= 400; place++) {
            told.file.add(x.at(place));
        }
        told.file.add(x.count(0));
        for (int what = 0; what <= 6; what++) {
            told.judging.add(x.read(what));
        }
        told.judging.add(x.place());
        for (int r = 0; r <= 28; r++) {
            told.found.add(x.found(r));
        }
        told.found.add(x.count(1));
        told.found.add(x.count(2));
        return told;
    }

    private void together() {
        doc.says("What it is", "Bytes of a compiled class that are put together freely, read and judged by the rules of the "
            + "format (pool, names, descriptors, flags, members, code), and cut down to the least that breaks the same rule.");
        ClassShape x = new ClassShape();
        doc.due("put(4, 0xCAFEBABE)", x.put(4, 0xCAFEBABE), 4);
        doc.due("put(4, 52)", x.put(4, 52), 8);
        doc.due("put(2, 3)", x.put(2, 3), 10);
        doc.due("text(2, AA)", x.text(2, 0x4141), 15);
        doc.due("cut(14, 1)", x.cut(14, 1), 14);
        doc.due("patch(12, 1)", x.patch(12, 1), 2);
        doc.due("put(1, 7)", x.put(1, 7), 15);
        doc.due("put(4, 0x00010021)", x.put(4, 0x00010021), 19);
        doc.due("put(2, 2)", x.put(2, 2), 21);
        doc.due("twice(19, 2)", x.twice(19, 2), 23);
        doc.due("put(4, 0)", x.put(4, 0), 27);
        doc.due("twice(23, 4)", x.twice(23, 4), 31);
        doc.due("judge()", x.judge(), 0);
        doc.due("read(0)", x.read(0), 2);
        doc.due("patch(22, 1)", x.patch(22, 1), 2);
        doc.due("judge() where super is no CLASS", x.judge(), 12);
        doc.due("place()", x.place(), 21);
        // n = 8 takes what is behind super, n = 2 this, so that super stands there, and n = 1 the count's second byte, so
        // that the tag 1 stands there: the pool has no entry, and what were a TEXT's bytes are the flags and this.
        doc.due("shrink()", x.shrink(), 11);
        doc.due("judge() after it", x.judge(), 12);
        doc.due("place() after it", x.place(), 12);
    }

    private void sideBySide() {
        doc.says("Promise 1", "An empty FILE; nothing was judged.");
        Told alone = told(judgedWhole());
        ClassShape first = judgedWhole();
        ClassShape second = new ClassShape();
        doc.due("a second object is new", told(second).equals(told(new ClassShape())));
        second = Shape.head(0).load();
        second.judge();
        second.shrink();
        second.clear();
        doc.due("what is done to it changes nothing of the first", told(first).equals(alone));
    }

    /** A FILE of so many bytes that has been judged; few calls, so that all of it can be asked for. */
    private static ClassShape judgedOf(int length) {
        ClassShape x = new ClassShape();
        x.put(4, Shape.MAGIC);
        x.put(4, 52);
        x.judge();
        x.put(4, 0x00030100);
        x.put(4, 0x01410703);
        for (int half = 16; half < 256; half *= 2) {
            x.twice(0, half);
        }
        x.twice(0, length - 256);
        x.judge();
        return x;
    }

    /** A class with something of everything and a byte behind: read tells more than 0 for each number but 6. */
    private static ClassShape judgedWhole() {
        ClassShape x = Shape.whole().u1(0).load();
        x.judge();
        return x;
    }

    /** A class with a field of type [[I and a byte behind: read tells more than 0 for the number 6. */
    private static ClassShape judgedBrackets() {
        ClassShape x = Shape.toFieldWith(5, new Shape().text("a").text("[[I")).u2(0, 3, 4, 0, 0, 0).u1(0).load();
        x.judge();
        return x;
    }

    private static int refused(ClassShape x, int which) {
        return switch (which) {
            case 0 -> x.put(3, 1);
            case 1 -> x.text(-1, 0x61);
            case 2 -> x.text(9, 0x61);
            case 3 -> x.patch(x.count(0), 1);
            case 4 -> x.patch(-1, 1);
            case 5 -> x.cut(0, x.count(0) + 1);
            case 6 -> x.cut(0, 0);
            case 7 -> x.cut(-1, 1);
            case 8 -> x.twice(0, 0);
            case 9 -> x.twice(x.count(0), 1);
            case 10 -> x.at(x.count(0));
            case 11 -> x.read(7);
            case 12 -> x.found(29);
            case 13 -> x.count(3);
            case 14 -> x.put(4, 1);
            case 15 -> x.text(0, 1);
            case 16 -> x.text(8, -1);
            default -> x.twice(0, x.count(0));
        };
    }

    private void refusedCalls() {
        doc.says("Terms", "A refused call changes nothing.");
        for (int length : new int[] {398, 400}) {
            Told before = told(judgedOf(length));
            for (int which = 0; which <= 17; which++) {
                ClassShape x = judgedOf(length);
                doc.due("call " + which + " at " + length, refused(x, which), which < 14 ? REFUSED : FULL);
                doc.due("call " + which + " at " + length + " changes nothing", told(x).equals(before));
            }
        }
        Told right = told(Shape.whole().load());
        for (int which = 0; which < 14; which++) {
            ClassShape x = Shape.whole().load();
            doc.due("call " + which + " before a judging", refused(x, which), REFUSED);
            doc.due("call " + which + " before a judging changes nothing", told(x).equals(right));
        }
    }

    private static void changeFile(ClassShape x, int which) {
        switch (which) {
            case 0 -> x.put(1, 0);
            case 1 -> x.put(4, -1);
            case 2 -> x.text(8, 0x6161616161616161L);
            case 3 -> x.patch(0, 0);
            case 4 -> x.cut(0, 4);
            case 5 -> x.twice(0, 50);
            default -> x.clear();
        }
    }

    private void callsOnTheFile() {
        for (int which = 0; which <= 6; which++) {
            ClassShape whole = judgedWhole();
            changeFile(whole, which);
            callOnTheFile("call " + which, told(judgedWhole()), told(whole));
            ClassShape brackets = judgedBrackets();
            changeFile(brackets, which);
            callOnTheFile("call " + which, told(judgedBrackets()), told(brackets));
        }
    }

    private void callOnTheFile(String call, Told before, Told after) {
        doc.says("Promise 9", "The place of the last judging's broken RULE;");
        doc.due(call + " changes the FILE", !after.file.equals(before.file));
        doc.due(call + " is no judging: place()", after.judging.get(7), before.file.get(401) - 1);
        doc.says("Promise 12", "What the last judging read before it ended (all 0 before):");
        doc.due(call + " is no judging: read", after.judging.equals(before.judging));
        doc.says("Promise 13",
            "How often judge found RULE r, 0 .. 28 (0 for none), since the beginning (shrink's own do not count);");
        doc.due(call + " is no judging: found", after.found.equals(before.found));
    }

    private void judgings() {
        Told before = told(judgedWhole());
        ClassShape judged = judgedWhole();
        judged.judge();
        Told after = told(judged);
        doc.says("Promise 8", "JUDGES the FILE: 0 if no RULE is broken, else the RULE.");
        doc.due("judge() changes no byte", after.file.equals(before.file));
        doc.due("judge() of the same bytes reads the same", after.judging.equals(before.judging));
        doc.says("Promise 10", "(No RULE broken: 0.)");
        ClassShape right = Shape.whole().load();
        right.shrink();
        doc.due("shrink() of a right class changes no byte", told(right).file.equals(told(Shape.whole().load()).file));
        doc.says("Promise 13",
            "How often judge found RULE r, 0 .. 28 (0 for none), since the beginning (shrink's own do not count);");
        ClassShape shrunk = judgedWhole();
        shrunk.shrink();
        doc.due("shrink() is no judge()", told(shrunk).found.equals(before.found));
    }

    private static void ask(ClassShape x, int which) {
        switch (which) {
            case 0 -> x.place();
            case 1 -> x.at(0);
            case 2 -> x.read(0);
            case 3 -> x.found(28);
            case 4 -> x.count(0);
            case 5 -> x.count(1);
            default -> x.count(2);
        }
    }

    private void askingCalls() {
        doc.says("Not promised", "Nothing is promised beyond the answers and state changes described above,");
        Told before = told(judgedWhole());
        for (int which = 0; which <= 6; which++) {
            ClassShape x = judgedWhole();
            ask(x, which);
            doc.due("asking call " + which + " changes nothing", told(x).equals(before));
        }
    }

    /** LANGUAGE.md, rule 7: whatever these calls answer, none throws and each ends. */
    private void behindTheLastCall() {
        doc.says("Not promised", "and nothing about an object after its 512th call.");
        ClassShape x = Shape.whole().load();
        for (int i = 0; i < 1000; i++) {
            changeFile(x, i % 6);
            refused(x, i % 18);
            ask(x, i % 7);
            x.judge();
        }
        x.shrink();
        doc.due("4000 calls on one object ended", true);
    }

    private void free() {
        doc.plain("Not promised", "How the state is held inside the object is free, as are the speed of each call, "
            + "the text of toString and the behaviour of equals and hashCode.");
        doc.plain("Not promised", "Use of one object from several threads at once is not promised to be safe.");
    }
}
