/** Promises 19 to 25. */
public final class TreeTest {
    public static void main(String[] args) {
        numberTree();
        sealedTree();
        sharedNodes();
        asking();
        askedPlaces();
        weights();
        nullsInFields();
        newAndOthers();
        rowsOfOneEither();
        limitOfMatrices();
        whatWasBeforeStays();
        wrongCalls();
        means();
        Due.end();
    }

    private static final String[] KINDS = {"MISS", "TAKE", "ASK", "TEST", "REFUSE", "NEW"};

    /** Node after node: kind, about, longest way, then its branches as for:to. */
    static String text(MatchwrightHall hall) {
        StringBuilder told = new StringBuilder();
        for (int node = 0; node < hall.many(7); node++) {
            told.append(node == 0 ? "" : " ").append(KINDS[hall.ofNode(node, 0)]);
            told.append(hall.ofNode(node, 1) == -1 ? "" : Integer.toString(hall.ofNode(node, 1)));
            told.append('^').append(hall.ofNode(node, 3));
            for (int branch = 0; branch < hall.ofNode(node, 2); branch++) {
                told.append(branch == 0 ? "(" : ",").append(hall.branch(node, branch, 1)).append(':')
                        .append(hall.branch(node, branch, 0));
            }
            told.append(hall.ofNode(node, 2) == 0 ? "" : ")");
        }
        return told.toString();
    }

    private static void numberTree() {
        MatchwrightHall hall = new MatchwrightHall();
        for (int n : new int[] {-99, 0, 3, 4, 5, 6, 99}) {
            hall.number(n);
        }
        hall.range(0, 4);
        hall.range(4, 5);
        Due.badState("compile() without CASES", hall::compile);
        hall.add(0, -1, 0);
        hall.add(1, -1, 0);
        Due.same("compile()", hall.compile(), 4);
        Due.sameText("the tree", text(hall), "MISS^0 TAKE0^0 TAKE1^0 TEST1^1(-99:0,0:1,4:1,5:2,6:0)");
        Due.same("MATRICES", hall.many(8), 6);
        int[] due = {-1, 0, 0, 0, 1, -1, -1};
        for (int value = 0; value < due.length; value++) {
            Due.same("down(" + value + ")", hall.down(value), due[value]);
            Due.same("tests(" + value + ")", hall.tests(value), 1);
        }
        MatchwrightHall edges = new MatchwrightHall();
        edges.add(edges.range(-99, 99), -1, 0);
        edges.compile();
        Due.sameText("a RANGE of all is TESTED", text(edges), "TAKE0^0 TEST1^1(-99:0)");
        edges.cut();
        edges.add(edges.range(99, 99), -1, 0);
        edges.compile();
        Due.sameText("the last NUMBER", text(edges), "MISS^0 TAKE0^0 TEST1^1(-99:0,99:1)");
        edges.cut();
        edges.add(edges.either(edges.range(0, 1), edges.any(0)), -1, 0);
        edges.compile();
        Due.sameText("EITHER with an open side is OPEN", text(edges), "TAKE0^0");
    }

    private static void sealedTree() {
        MatchwrightHall hall = new MatchwrightHall();
        hall.type();
        hall.record(1, 0, -1);
        hall.record(1, -1, -1);
        hall.number(5);
        hall.make(0, 0, 0);
        hall.make(1, 0, 0);
        hall.none(1);
        hall.add(hall.isRecord(0, hall.range(0, 3), 0), -1, 0);
        hall.add(hall.any(1), -1, 0);
        hall.compile();
        Due.sameText("REFUSE, a RECORD, OTHERS", text(hall),
                "REFUSE^0 TAKE1^0 TAKE0^0 TEST2^1(-99:1,0:2,4:1) TEST1^2(-1:0,0:3,-2:1)");
        Due.same("MATRICES: none for REFUSE", hall.many(8), 6);
        Due.same("TESTS", hall.many(9), 2);
        Due.same("NULL", hall.down(3), -2);
        Due.same("NULL by one TEST", hall.tests(3), 1);
        Due.same("by two TESTS", hall.tests(1), 2);
        Due.same("OTHERS", hall.down(2), 1);
        hall.cut();
        hall.cut();
        hall.add(2, -1, 0);
        hall.add(hall.isNone(1), -1, 0);
        hall.compile();
        Due.sameText("the TOP is TESTED, whatever is OPEN", text(hall), "TAKE1^0 TAKE0^0 TEST1^1(-1:0,-2:1)");
        Due.same("OPEN is not for NULL at the TOP", hall.down(3), 1);
    }

    private static void sharedNodes() {
        MatchwrightHall hall = new MatchwrightHall();
        hall.type();
        hall.record(1, 0, -1);
        hall.record(1, 0, 0);
        int low = hall.range(0, 3);
        hall.add(hall.isRecord(0, low, 0), -1, 0);
        hall.add(hall.isRecord(1, low, hall.any(0)), -1, 0);
        hall.compile();
        Due.sameText("other CASES are other NODES", text(hall),
                "REFUSE^0 MISS^0 TAKE0^0 TEST2^1(-99:1,0:2,4:1) TAKE1^0 TEST2^1(-99:1,0:4,4:1) NEW^0"
                + " TEST1^2(-1:0,0:3,1:5,-2:6)");
        hall.cut();
        hall.cut();
        hall.add(hall.either(1, 3), -1, 0);
        hall.compile();
        Due.sameText("the same NODES are one", text(hall),
                "REFUSE^0 MISS^0 TAKE0^0 TEST2^1(-99:1,0:2,4:1) NEW^0 TEST1^2(-1:0,0:3,1:3,-2:4)");
        Due.same("each branch is worked on for itself", hall.many(8), 9);
    }

    private static void asking() {
        MatchwrightHall hall = new MatchwrightHall();
        hall.number(5);
        hall.number(6);
        hall.name(0, 2);
        hall.range(0, 9);
        hall.add(hall.either(0, 0), 2, 5);
        hall.add(1, -1, 0);
        hall.compile();
        Due.sameText("ASK, and without its CASE", text(hall),
                "MISS^0 TAKE1^0 TEST1^1(-99:0,0:1,10:0) ASK0^1(-3:2)");
        Due.same("the GUARD does not hold", hall.down(0), 1);
        Due.same("an ASK is no TEST", hall.tests(0), 1);
        Due.same("the GUARD holds", hall.down(1), 0);
        Due.same("no TEST", hall.tests(1), 0);
        Due.same("MATRICES: the one behind ASK too", hall.many(8), 5);
        hall.cut();
        hall.cut();
        hall.add(0, 2, 7);
        Due.same("GUARDS as they were then", hall.down(1), 0);
        hall.compile();
        Due.sameText("a MISS behind ASK", text(hall), "MISS^0 ASK0^0(-3:0)");
        Due.same("a MATRIX without ROWS counts", hall.many(8), 2);
        Due.same("the new GUARD", hall.down(1), -1);
    }

    private static void askedPlaces() {
        MatchwrightHall hall = new MatchwrightHall();
        hall.type();
        hall.record(1, 0, 0);
        hall.record(1, 0, -1);
        hall.number(1);
        hall.number(9);
        hall.make(0, 0, 1);
        hall.make(0, 0, 0);
        hall.make(1, 1, 0);
        hall.make(1, 0, 0);
        hall.name(0, 0);
        hall.range(0, 3);
        hall.add(hall.either(hall.isRecord(0, 1, 0), hall.isRecord(1, 0, 0)), 0, 5);
        hall.compile();
        Due.sameText("ASKS at other PLACES are other NODES", text(hall),
                "REFUSE^0 MISS^0 ASK0^0(-3:1) TEST2^1(-99:1,0:2,4:1) ASK0^0(-3:1) NEW^0"
                + " TEST1^2(-1:0,0:3,1:4,-2:5)");
        int[] due = {0, -1, 0, -1};
        for (int value = 2; value < 6; value++) {
            Due.same("down(" + value + ")", hall.down(value), due[value - 2]);
        }
    }

    private static void weights() {
        MatchwrightHall hall = new MatchwrightHall();
        hall.type();
        hall.record(1, 0, 0);
        int any = hall.any(0);
        int low = hall.range(0, 3);
        int high = hall.range(50, 99);
        hall.add(hall.isRecord(0, low, low), -1, 0);
        hall.add(hall.isRecord(0, any, high), -1, 0);
        hall.compile();
        Due.sameText("the greatest WEIGHT ahead of the smallest PLACE", text(hall),
                "REFUSE^0 MISS^0 TAKE0^0 TEST2^1(-99:1,0:2,4:1) TAKE1^0 TEST3^2(-99:1,0:3,4:1,50:4) NEW^0"
                + " TEST1^3(-1:0,0:5,-2:6)");
        Due.same("nodesBySmallest()", hall.nodesBySmallest(), 9);
        hall.cut();
        hall.add(hall.isRecord(0, any, any), -1, 0);
        hall.compile();
        Due.sameText("the smallest PLACE of several", text(hall),
                "REFUSE^0 TAKE1^0 TAKE0^0 TEST3^1(-99:1,0:2,4:1) TEST2^2(-99:1,0:3,4:1) NEW^0"
                + " TEST1^3(-1:0,0:4,-2:5)");
    }

    private static void nullsInFields() {
        MatchwrightHall hall = new MatchwrightHall();
        hall.type();
        hall.record(1, 1, -1);
        hall.none(1);
        hall.make(0, 0, 0);
        hall.make(0, 1, 0);
        int any = hall.any(1);
        int open = hall.isRecord(0, any, 0);
        hall.add(hall.isRecord(0, open, 0), -1, 0);
        hall.add(open, -1, 0);
        hall.compile();
        Due.sameText("OPEN ones have NULL in a FIELD", text(hall),
                "REFUSE^0 TAKE1^0 TAKE0^0 TEST2^1(-1:1,0:2,-2:1) NEW^0 TEST1^2(-1:0,0:3,-2:4)");
        Due.same("NULL in a FIELD", hall.down(1), 1);
        hall.cut();
        hall.compile();
        Due.sameText("a MISS for NULL in a FIELD, and NEW there", text(hall),
                "REFUSE^0 MISS^0 TAKE0^0 NEW^0 TEST2^1(-1:1,0:2,-2:3) TEST1^2(-1:0,0:4,-2:3)");
        Due.same("MISSED", hall.down(1), -1);
    }

    private static void newAndOthers() {
        MatchwrightHall hall = new MatchwrightHall();
        hall.type();
        hall.type();
        hall.record(1, -1, -1);
        hall.record(2, -1, -1);
        hall.add(hall.isRecord(0, 0, 0), -1, 0);
        hall.compile();
        Due.sameText("NEW, whatever another TYPE has", text(hall),
                "REFUSE^0 TAKE0^0 NEW^0 TEST1^1(-1:0,0:1,-2:2)");
        hall.record(1, -1, -1);
        int fresh = hall.make(2, 0, 0);
        Due.same("UNKNOWN", hall.down(fresh), -3);
        Due.same("UNKNOWN by one TEST", hall.tests(fresh), 1);
        Due.same("takes() knows it as MISSED", hall.takes(fresh), -1);
        hall.compile();
        Due.sameText("a MISS by OTHERS, as it is now", text(hall),
                "REFUSE^0 TAKE0^0 MISS^0 TEST1^1(-1:0,0:1,-2:2)");
        Due.same("MISSED", hall.down(fresh), -1);
        MatchwrightHall bare = new MatchwrightHall();
        bare.type();
        bare.add(bare.isNone(1), -1, 0);
        bare.compile();
        Due.sameText("without RECORDS all are among those", text(bare), "TAKE0^0 NEW^0 TEST1^1(-1:0,-2:1)");
    }

    private static void rowsOfOneEither() {
        MatchwrightHall hall = new MatchwrightHall();
        hall.add(hall.either(hall.range(0, 3), hall.range(4, 9)), -1, 0);
        hall.compile();
        Due.sameText("two ROWS, also if the same is left", text(hall),
                "MISS^0 TAKE0^0 TEST1^1(-99:0,0:1,4:1,10:0)");
        Due.same("MATRICES", hall.many(8), 5);
    }

    /** Six cases of two ranges in the record at one of the fields: low and high of each. */
    static MatchwrightHall grid(String cases) {
        MatchwrightHall hall = new MatchwrightHall();
        hall.type();
        hall.record(1, 1, 1);
        hall.record(1, 0, 0);
        int any = hall.any(1);
        for (String one : cases.split(" ")) {
            String[] n = one.substring(1).split(",");
            int left = hall.range(Integer.parseInt(n[0]), Integer.parseInt(n[1]));
            int right = hall.range(Integer.parseInt(n[2]), Integer.parseInt(n[3]));
            int inner = hall.isRecord(1, left, right);
            hall.add(one.charAt(0) == 'L' ? hall.isRecord(0, inner, any) : hall.isRecord(0, any, inner), -1, 0);
        }
        return hall;
    }

    static final String WORKS_300 = "R9,21,7,15 R0,0,10,19 R1,2,2,4 R2,7,5,8 L3,9,14,26 L7,25,6,13";
    static final String WORKS_301 = "L1,1,9,16 R9,18,0,7 R3,5,5,18 L19,29,3,5 R6,8,1,16 R1,16,0,5";

    private static void limitOfMatrices() {
        MatchwrightHall most = grid(WORKS_300);
        Due.same("300 MATRICES are worked on", most.compile() > 0, true);
        Due.same("many(8)", most.many(8), 300);
        MatchwrightHall more = grid(WORKS_301);
        Due.same("301 are not", more.compile(), -1);
        Due.same("many(7)", more.many(7), 0);
        Due.same("many(8)", more.many(8), 0);
        Due.same("many(9)", more.many(9), 0);
        int leaf = more.none(1);
        Due.badState("nothing was COMPILED", () -> more.down(leaf));
    }

    private static void whatWasBeforeStays() {
        MatchwrightHall hall = grid(WORKS_301);
        int[] cut = new int[6];
        for (int i = 5; i > 0; i--) {
            cut[i] = hall.cut();
        }
        hall.compile();
        String before = text(hall);
        int worked = hall.many(8);
        for (int i = 1; i < 6; i++) {
            hall.add(cut[i], -1, 0);
        }
        Due.same("compile() of too much", hall.compile(), -1);
        Due.sameText("what was before stays", text(hall), before);
        Due.same("many(8) stays", hall.many(8), worked);
        hall.nodesBySmallest();
        Due.sameText("nodesBySmallest() changes nothing", text(hall), before);
        while (hall.many(4) > 0) {
            hall.cut();
        }
        Due.badState("compile() without CASES", hall::compile);
        Due.sameText("that changes nothing", text(hall), before);
    }

    private static void wrongCalls() {
        MatchwrightHall hall = new MatchwrightHall();
        hall.type();
        hall.number(3);
        hall.none(1);
        Due.badState("down() of nothing COMPILED", () -> hall.down(0));
        Due.badState("tests() of nothing COMPILED", () -> hall.tests(1));
        Due.outOfBounds("down() of no VALUE", () -> hall.down(2));
        Due.outOfBounds("tests() of no VALUE", () -> hall.tests(-1));
        Due.outOfBounds("ofNode() without any", () -> hall.ofNode(0, 9));
        Due.outOfBounds("branch() without any", () -> hall.branch(0, 0, 9));
        hall.add(hall.range(0, 3), -1, 0);
        hall.compile();
        Due.badArgument("down() of another TYPE", () -> hall.down(1));
        Due.badArgument("tests() of another TYPE", () -> hall.tests(1));
        Due.outOfBounds("ofNode(3, ..)", () -> hall.ofNode(3, 0));
        Due.outOfBounds("ofNode(-1, ..)", () -> hall.ofNode(-1, 0));
        Due.badArgument("ofNode(.., -1)", () -> hall.ofNode(0, -1));
        Due.badArgument("ofNode(.., 4)", () -> hall.ofNode(0, 4));
        Due.outOfBounds("branch(3, ..)", () -> hall.branch(3, 0, 0));
        Due.outOfBounds("a branch of MISS", () -> hall.branch(0, 0, 0));
        Due.outOfBounds("branch(2, 3, ..)", () -> hall.branch(2, 3, 7));
        Due.outOfBounds("branch(2, -1, ..)", () -> hall.branch(2, -1, 0));
        Due.badArgument("branch(.., 2)", () -> hall.branch(2, 0, 2));
        Due.badArgument("branch(.., -1)", () -> hall.branch(2, 0, -1));
        Due.badArgument("many(-1)", () -> hall.many(-1));
        Due.badArgument("many(11)", () -> hall.many(11));
        hall.cut();
        Due.same("the tree stays without CASES", hall.down(0), 0);
        hall.add(hall.any(1), -1, 0);
        Due.same("and with CASES on another TYPE", hall.down(0), 0);
    }

    private static void means() {
        MatchwrightHall hall = new MatchwrightHall();
        hall.type();
        hall.record(1, 0, -1);
        Due.same("without any", hall.meanTests(), 0.0);
        hall.add(hall.isRecord(0, hall.range(0, 3), 0), -1, 0);
        hall.number(1);
        hall.compile();
        Due.same("without a VALUE on the TYPE", hall.meanTests(), 0.0);
        hall.none(1);
        Due.same("NULL", hall.meanTests(), 1.0);
        hall.make(0, 0, 0);
        Due.same("not cut", hall.meanTests(), 1.5);
        hall.make(0, 0, 0);
        Due.same("not cut", hall.meanTests(), 5.0 / 3.0);
        hall.cut();
        Due.same("of what was COMPILED", hall.meanTests(), 5.0 / 3.0);
    }
}
