import java.util.List;

/**
 * A call that throws changes nothing, nor does a question: all that a hall tells of itself stays.
 * Each call with far-off arguments throws what Reference throws, or answers what that answers.
 */
public final class RefusedCallsTest {
    private static final int[] FAR = {Integer.MIN_VALUE, -100, -3, -2, -1, 0, 1, 2, 3, 4, 5, 6, 11, 12, 39, 40, 63,
        64, 99, 100, Integer.MAX_VALUE};
    private static final int[] NEAR = {Integer.MIN_VALUE, -2, -1, 0, 1, 2, 3, 4, 12, 40, Integer.MAX_VALUE};

    private interface On {
        Object call(MatchwrightHall hall);
    }

    private static final String[] KINDS = {"new", "some", "full"};

    private MatchwrightHall hall;
    private Reference reference;
    private final String kind;

    private RefusedCallsTest(String kind) {
        this.kind = kind;
        fresh();
    }

    public static void main(String[] args) {
        for (String kind : KINDS) {
            typesAndValues(kind);
            patternsAndCases(kind);
            questions(kind);
            questionsChangeNothing(kind);
        }
        fullHall();
        emptyHall();
        for (int i = 0; i < 2; i++) {
            RefusedCallsTest test = new RefusedCallsTest(KINDS[i]);
            test.askFarArguments();
            test.tellFarArguments();
        }
        Due.end();
    }

    private static MatchwrightHall hallOf(String kind) {
        return kind.equals("new") ? new MatchwrightHall() : kind.equals("some") ? Halls.some() : Halls.full();
    }

    /** Whether the call throws, and leaves all as it was. */
    private static void refused(String kind, String call, On made) {
        MatchwrightHall hall = hallOf(kind);
        String before = Halls.told(hall);
        String told = Due.told(() -> made.call(hall));
        Due.same(kind + ": " + call + " throws; it told " + told, told.endsWith("Exception"), true);
        Due.sameText(kind + ": " + call + " changes nothing", Halls.told(hall), before);
    }

    // ---- calls that each of these halls refuses

    private static void typesAndValues(String kind) {
        refused(kind, "record() of NUMBER", hall -> hall.record(0, -1, -1));
        refused(kind, "record() of no TYPE", hall -> hall.record(5, -1, -1));
        refused(kind, "record() with a FIELD of no TYPE", hall -> hall.record(1, 5, -1));
        refused(kind, "record() with a second FIELD alone", hall -> hall.record(1, -1, 0));
        refused(kind, "number(100)", hall -> hall.number(100));
        refused(kind, "number(-100)", hall -> hall.number(-100));
        refused(kind, "none() of NUMBER", hall -> hall.none(0));
        refused(kind, "none() of no TYPE", hall -> hall.none(5));
        refused(kind, "make() of no RECORD", hall -> hall.make(12, 0, 0));
        refused(kind, "make() of no VALUE", hall -> hall.make(0, 40, 0));
        refused(kind, "make() of a VALUE of another TYPE", hall -> hall.make(0, 0, 0));
        refused(kind, "make() with a FIELD too much", hall -> hall.make(1, 1, 0));
    }

    private static void patternsAndCases(String kind) {
        refused(kind, "any() on no TYPE", hall -> hall.any(5));
        refused(kind, "name() on no TYPE", hall -> hall.name(5, 0));
        refused(kind, "name() of no NAME", hall -> hall.name(0, 4));
        refused(kind, "range(1, 0)", hall -> hall.range(1, 0));
        refused(kind, "range(-100, 0)", hall -> hall.range(-100, 0));
        refused(kind, "isNone() on NUMBER", hall -> hall.isNone(0));
        refused(kind, "isNone() on no TYPE", hall -> hall.isNone(5));
        refused(kind, "isRecord() of no RECORD", hall -> hall.isRecord(12, 0, 0));
        refused(kind, "isRecord() of no PATTERN", hall -> hall.isRecord(0, 40, 0));
        refused(kind, "isRecord() of a PATTERN on another TYPE", hall -> hall.isRecord(0, 0, 0));
        refused(kind, "isRecord() with a NAME twice", hall -> hall.isRecord(0, 0, 2));
        refused(kind, "isRecord() with a FIELD too much", hall -> hall.isRecord(1, 1, 0));
        refused(kind, "either() of no PATTERN", hall -> hall.either(40, 0));
        refused(kind, "either() on two TYPES", hall -> hall.either(0, 1));
        refused(kind, "either() with other NAMES", hall -> hall.either(0, 4));
        refused(kind, "add() of no PATTERN", hall -> hall.add(40, -1, 0));
        refused(kind, "add() with a NAME that is on no NUMBER", hall -> hall.add(2, 3, 0));
        refused(kind, "add() with a number alone", hall -> hall.add(2, -1, 1));
        refused(kind, "matches() of no VALUE", hall -> hall.matches(0, 40));
        refused(kind, "matches() of no PATTERN", hall -> hall.matches(40, 0));
        refused(kind, "matches() of two TYPES", hall -> hall.matches(0, 1));
    }

    private static void questions(String kind) {
        refused(kind, "takes(40)", hall -> hall.takes(40));
        refused(kind, "takes(-1)", hall -> hall.takes(-1));
        refused(kind, "looks(40)", hall -> hall.looks(40));
        refused(kind, "bound(40, 0)", hall -> hall.bound(40, 0));
        refused(kind, "bound(2, 4)", hall -> hall.bound(2, 4));
        refused(kind, "ofNode(600, 0)", hall -> hall.ofNode(600, 0));
        refused(kind, "ofNode(0, 4)", hall -> hall.ofNode(0, 4));
        refused(kind, "branch(600, 0, 0)", hall -> hall.branch(600, 0, 0));
        refused(kind, "branch(0, 0, 2)", hall -> hall.branch(0, 0, 2));
        refused(kind, "down(40)", hall -> hall.down(40));
        refused(kind, "tests(40)", hall -> hall.tests(40));
        refused(kind, "many(11)", hall -> hall.many(11));
        refused(kind, "isReached(6)", hall -> hall.isReached(6));
        refused(kind, "missing(64)", hall -> hall.missing(64));
        refused(kind, "missing(0)", hall -> hall.missing(0));
        refused(kind, "takesWithout(6, 0)", hall -> hall.takesWithout(6, 0));
        refused(kind, "missesWithout(6)", hall -> hall.missesWithout(6));
    }

    private static void questionsChangeNothing(String kind) {
        MatchwrightHall hall = hallOf(kind);
        String before = Halls.told(hall);
        for (int value = 0; value < hall.many(2); value++) {
            int asked = value;
            Due.told(() -> hall.takes(asked));
            Due.told(() -> hall.looks(asked));
            Due.told(() -> hall.bound(asked, 0));
            Due.told(() -> hall.down(asked));
            Due.told(() -> hall.tests(asked));
            Due.told(() -> hall.takesWithout(0, asked));
        }
        for (int number = 0; number < hall.many(4); number++) {
            hall.isReached(number);
            hall.missesWithout(number);
        }
        hall.missing(1);
        hall.nodesBySmallest();
        Due.sameText(kind + ": questions change nothing", Halls.told(hall), before);
    }

    // ---- calls that a full hall refuses, or an empty one

    private static void fullHall() {
        refused("full", "type()", MatchwrightHall::type);
        refused("full", "record()", hall -> hall.record(1, -1, -1));
        refused("full", "number()", hall -> hall.number(0));
        refused("full", "none()", hall -> hall.none(1));
        refused("full", "make()", hall -> hall.make(1, 0, 0));
        refused("full", "any()", hall -> hall.any(0));
        refused("full", "name()", hall -> hall.name(0, 0));
        refused("full", "range()", hall -> hall.range(0, 0));
        refused("full", "isNone()", hall -> hall.isNone(1));
        refused("full", "isRecord()", hall -> hall.isRecord(1, 0, 0));
        refused("full", "either()", hall -> hall.either(0, 0));
        refused("full", "add()", hall -> hall.add(2, 0, 0));
    }

    private static void emptyHall() {
        refused("new", "cut()", MatchwrightHall::cut);
        refused("new", "compile()", MatchwrightHall::compile);
        refused("new", "down(0)", hall -> hall.down(0));
        refused("new", "tests(0)", hall -> hall.tests(0));
        refused("new", "ofNode(0, 0)", hall -> hall.ofNode(0, 0));
        refused("new", "branch(0, 0, 0)", hall -> hall.branch(0, 0, 0));
    }

    // ---- far-off arguments

    /** Both anew, so that no hall is asked more than 512 times. */
    private void fresh() {
        hall = hallOf(kind);
        reference = kind.equals("new") ? new Reference() : Halls.someOfReference();
    }

    private void same(String call, Due.Call mine, Due.Call theirs) {
        Due.sameText(kind + ": " + call, Due.told(mine), Due.told(theirs));
    }

    private void askFarArguments() {
        for (int a : FAR) {
            fresh();
            List<Reference.Val> all = reference.cases.isEmpty() ? List.of() : reference.universe();
            same("takes(" + a + ")", () -> hall.takes(a), () -> reference.takes(a));
            same("looks(" + a + ")", () -> hall.looks(a), () -> reference.looks(a));
            same("down(" + a + ")", () -> hall.down(a), () -> reference.down(a));
            same("tests(" + a + ")", () -> hall.tests(a), () -> reference.tests(a));
            same("many(" + a + ")", () -> hall.many(a), () -> reference.many(a, all));
            for (int b : FAR) {
                String told = "(" + a + ", " + b + ")";
                same("matches" + told, () -> hall.matches(a, b) ? 1 : 0, () -> reference.matches(a, b));
                same("bound" + told, () -> hall.bound(a, b), () -> reference.bound(a, b));
                same("ofNode" + told, () -> hall.ofNode(a, b), () -> reference.ofNode(a, b));
                same("takesWithout" + told, () -> hall.takesWithout(a, b), () -> reference.takesWithout(a, b));
            }
        }
        for (int a : NEAR) {
            fresh();
            for (int b : NEAR) {
                for (int c : NEAR) {
                    same("branch(" + a + ", " + b + ", " + c + ")",
                            () -> hall.branch(a, b, c), () -> reference.branch(a, b, c));
                }
            }
        }
    }

    private void tellFarArguments() {
        fresh();
        for (int a : FAR) {
            same("number(" + a + ")", () -> hall.number(a), () -> reference.number(a));
            same("none(" + a + ")", () -> hall.none(a), () -> reference.none(a));
            same("any(" + a + ")", () -> hall.any(a), () -> reference.any(a));
            same("isNone(" + a + ")", () -> hall.isNone(a), () -> reference.isNone(a));
        }
        for (int a : NEAR) {
            for (int b : NEAR) {
                fresh();
                String told = "(" + a + ", " + b + ")";
                same("name" + told, () -> hall.name(a, b), () -> reference.name(a, b));
                same("range" + told, () -> hall.range(a, b), () -> reference.range(a, b));
                same("either" + told, () -> hall.either(a, b), () -> reference.either(a, b));
                for (int c : NEAR) {
                    String three = "(" + a + ", " + b + ", " + c + ")";
                    same("record" + three, () -> hall.record(a, b, c), () -> reference.record(a, b, c));
                    same("make" + three, () -> hall.make(a, b, c), () -> reference.make(a, b, c));
                    same("isRecord" + three, () -> hall.isRecord(a, b, c), () -> reference.isRecord(a, b, c));
                    same("add" + three, () -> hall.add(a, b, c), () -> reference.add(a, b, c));
                }
            }
        }
    }
}
