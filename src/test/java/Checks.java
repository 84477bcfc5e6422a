/** Counts the answers that are not the ones due; each test ends with finish. */
final class Checks {
    private int wrong;
    private int made;

    void due(String call, long got, long want) {
        made++;
        if (got != want) {
            wrong++;
            System.out.println(call + " answered " + got + ", due is " + want);
        }
    }

    void due(String call, boolean holds) {
        due(call, holds ? 1 : 0, 1);
    }

    /** The FILE breaks the RULE at the place; rule 0 means that it breaks none. */
    void judged(String what, Shape shape, int rule, int place) {
        ClassShape x = shape.load();
        due(what + ": judge", x.judge(), rule);
        due(what + ": place", x.place(), rule == 0 ? ClassShape.REFUSED : place);
    }

    void right(String what, Shape shape) {
        judged(what, shape, 0, 0);
    }

    /** What the judging of the FILE read, in the order of read's numbers. */
    void tallies(String what, Shape shape, int... wants) {
        ClassShape x = shape.load();
        x.judge();
        for (int i = 0; i < wants.length; i++) {
            due(what + ": read(" + i + ")", x.read(i), wants[i]);
        }
    }

    void finish(String test) {
        System.out.println(test + ": " + made + " answers, " + wrong + " wrong");
        if (wrong != 0) {
            System.exit(1);
        }
    }
}
