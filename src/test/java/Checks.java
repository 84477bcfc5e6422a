import java.util.HexFormat;

/** Counts the answers that are not the ones due; each test ends with finish. */
class Checks {
    private String label = "";
    private int wrong;
    private int made;

    /** What the checks that follow are about; it is printed before a call whose answer is wrong. */
    final void about(String what) {
        label = what;
    }

    final int made() {
        return made;
    }

    final void due(String call, long got, long want) {
        made++;
        if (got != want) {
            wrong++;
            System.out.println(label + call + " answered " + got + ", due is " + want);
        }
    }

    final void due(String what, boolean holds) {
        made++;
        if (!holds) {
            wrong++;
            System.out.println(label + what + ": does not hold");
        }
    }

    /** The FILE breaks the RULE at the place; rule 0 means that it breaks none. */
    final void judged(String what, Shape shape, int rule, int place) {
        int wrongBefore = wrong;
        ClassShape x = shape.load();
        due(what + ": count(0)", x.count(0), shape.size());
        due(what + ": judge()", x.judge(), rule);
        due(what + ": place()", x.place(), rule == 0 ? ClassShape.REFUSED : place);
        if (wrong > wrongBefore) {
            System.out.println("  the FILE: " + HexFormat.ofDelimiter(" ").formatHex(shape.toBytes()));
        }
    }

    final void right(String what, Shape shape) {
        judged(what, shape, 0, ClassShape.REFUSED);
    }

    /** Nothing in the FILE is wrong but that it ends too early. */
    final void rightSoFar(String what, Shape shape) {
        judged(what, shape, 1, shape.size());
    }

    /** What the judging of the FILE read, in the order of read's numbers. */
    final void tallies(String what, Shape shape, int... wants) {
        ClassShape x = shape.load();
        x.judge();
        for (int i = 0; i < wants.length; i++) {
            due(what + ": read(" + i + ")", x.read(i), wants[i]);
        }
    }

    final void bytes(String what, ClassShape x, int... wants) {
        due(what + ": count(0)", x.count(0), wants.length);
        for (int i = 0; i < wants.length; i++) {
            due(what + ": at(" + i + ")", x.at(i), wants[i]);
        }
    }

    void finish(String test) {
        System.out.println(test + ": " + made + " answers, " + wrong + " wrong");
        if (wrong != 0) {
            System.exit(1);
        }
    }
}
