/** Promises 19 to 25 at their edges: the last that is allowed, and the first that is not. */
public final class EdgesOfTreesTest {
    private static final int MIN = Integer.MIN_VALUE;
    private static final int MAX = Integer.MAX_VALUE;

    public static void main(String[] args) {
        noneOneAndSixCases();
        compiledOftenAlike();
        limitOfMatrices();
        whatWasBeforeStays();
        nothingWasBefore();
        endsOfRanges();
        numbersGoingDown();
        widestNumberTest();
        widestSealedTest();
        deepestWay();
        askedNames();
        missOfAnEmptyMatrix();
        nullAtTheTop();
        nullInAField();
        fieldsOfOpenRows();
        newOrOthers();
        weightsOfColumns();
        splitRows();
        nodesThatAreOne();
        nodesAndWhat();
        branchesAndWhat();
        valuesGoingDown();
        asTheyWereThen();
        whatOfMany();
        countsOfATree();
        missedValues();
        meansOfValues();
        severalExceptions();
        Due.end();
    }

    // ---- promise 19

    private static void noneOneAndSixCases() {
        MatchwrightHall hall = new MatchwrightHall();
        int one = hall.range(1, 1);
        Due.badState("without CASES", hall::compile);
        hall.add(one, -1, 0);
        Due.same("of one CASE", hall.compile(), 3);
        for (int number = 2; number <= 6; number++) {
            hall.add(hall.range(number, number), -1, 0);
        }
        Due.same("of 6 CASES", hall.compile(), 8);
        Due.sameText("each has its branch", TreeTest.text(hall), "MISS^0 TAKE0^0 TAKE1^0 TAKE2^0 TAKE3^0 TAKE4^0"
                + " TAKE5^0 TEST1^1(-99:0,1:1,2:2,3:3,4:4,5:5,6:6,7:0)");
        while (hall.many(4) > 0) {
            hall.cut();
        }
        Due.badState("when all are cut", hall::compile);
        Due.same("what was before stays", hall.many(7), 8);
    }

    /** What an earlier tree needed must not count for a later one: 512 calls can compile very often. */
    private static void compiledOftenAlike() {
        MatchwrightHall hall = new MatchwrightHall();
        hall.type();
        hall.record(1, 0, 0);
        int low = hall.range(0, 3);
        int any = hall.any(0);
        hall.add(hall.isRecord(0, low, any), -1, 0);
        hall.add(hall.isRecord(0, any, low), -1, 0);
        hall.compile();
        String tree = TreeTest.text(hall);
        int worked = hall.many(8);
        MatchwrightHall often = new MatchwrightHall();
        often.type();
        often.record(1, 0, 0);
        often.range(0, 3);
        often.any(0);
        often.add(often.isRecord(0, low, any), -1, 0);
        often.add(often.isRecord(0, any, low), -1, 0);
        for (int times = 1; times <= 300; times++) {
            Due.same("compile() number " + times, often.compile(), hall.many(7));
            if (times <= 3) {
                Due.same("MATRICES of compile() number " + times, often.many(8), worked);
                Due.same("nodesBySmallest() between", often.nodesBySmallest(), hall.nodesBySmallest());
            }
        }
        Due.same("MATRICES of the last", often.many(8), worked);
        Due.sameText("the tree of the last", TreeTest.text(often), tree);
    }

    /** Six cases of a RECORD in the left or the right FIELD, with two RANGES (ANY, if low is above high). */
    private static final String COMPILES_300 = "L14,26,9,21 R19,24,19,28 L1,0,19,33 R1,0,1,8 R1,0,8,10 L1,0,0,14";
    private static final String COMPILES_301 = "L12,18,6,8 L1,0,11,25 R3,10,7,9 L3,4,1,0 R2,3,7,7 R16,26,1,0";

    static MatchwrightHall grid(String cases, Reference alike) {
        MatchwrightHall hall = new MatchwrightHall();
        alike(hall.type(), alike.type());
        alike(hall.record(1, 1, 1), alike.record(1, 1, 1));
        alike(hall.record(1, 0, 0), alike.record(1, 0, 0));
        alike(hall.any(1), alike.any(1));
        alike(hall.any(0), alike.any(0));
        for (String one : cases.split(" ")) {
            String[] ends = one.substring(1).split(",");
            int left = rangeOrAny(hall, alike, Integer.parseInt(ends[0]), Integer.parseInt(ends[1]));
            int right = rangeOrAny(hall, alike, Integer.parseInt(ends[2]), Integer.parseInt(ends[3]));
            int inner = alike(hall.isRecord(1, left, right), alike.isRecord(1, left, right));
            int first = one.charAt(0) == 'L' ? inner : 0;
            int second = inner - first;
            int outer = alike(hall.isRecord(0, first, second), alike.isRecord(0, first, second));
            alike(hall.add(outer, -1, 0), alike.add(outer, -1, 0));
        }
        return hall;
    }

    private static int rangeOrAny(MatchwrightHall hall, Reference alike, int low, int high) {
        return low > high ? 1 : alike(hall.range(low, high), alike.range(low, high));
    }

    private static int alike(int one, int other) {
        Due.same("the same number in both", one, other);
        return one;
    }

    private static void limitOfMatrices() {
        Reference most = new Reference();
        MatchwrightHall hall = grid(COMPILES_300, most);
        Due.same("this needs 300 MATRICES", most.matrices(false), 300);
        Due.same("with 300 it is COMPILED", hall.compile(), most.compile());
        Due.same("to 30 NODES", hall.many(7), 30);
        Due.same("many(8)", hall.many(8), 300);
        Reference more = new Reference();
        MatchwrightHall other = grid(COMPILES_301, more);
        Due.same("this needs 301 MATRICES", more.matrices(false), 301);
        Due.same("with 301 it is not", other.compile(), -1);
        Due.same("nothing was COMPILED: NODES", other.many(7), 0);
        Due.same("nothing was COMPILED: MATRICES", other.many(8), 0);
        Due.same("nothing was COMPILED: TESTS", other.many(9), 0);
        other.cut();
        Due.same("with a CASE less it is COMPILED", other.compile() > 0, true);
    }

    private static void whatWasBeforeStays() {
        MatchwrightHall hall = grid(COMPILES_301, new Reference());
        int last = hall.cut();
        hall.none(1);
        hall.make(0, 0, 0);
        hall.compile();
        String before = TreeTest.text(hall);
        int[] counts = {hall.many(7), hall.many(8), hall.many(9)};
        double mean = hall.meanTests();
        hall.add(last, -1, 0);
        for (int times = 0; times < 3; times++) {
            Due.same("too much is not COMPILED", hall.compile(), -1);
            Due.sameText("the tree stays", TreeTest.text(hall), before);
            for (int what = 7; what <= 9; what++) {
                Due.same("many(" + what + ") stays", hall.many(what), counts[what - 7]);
            }
            Due.same("meanTests() stays", hall.meanTests(), mean);
            Due.same("down() stays", hall.down(0), -2);
        }
    }

    private static void nothingWasBefore() {
        MatchwrightHall hall = grid(COMPILES_301, new Reference());
        hall.none(1);
        hall.compile();
        Due.badState("down(), when nothing is COMPILED", () -> hall.down(0));
        Due.badState("tests(), when nothing is COMPILED", () -> hall.tests(0));
        Due.outOfBounds("ofNode(), when nothing is COMPILED", () -> hall.ofNode(0, 0));
        Due.outOfBounds("branch(), when nothing is COMPILED", () -> hall.branch(0, 0, 0));
        Due.same("meanTests(), when nothing is COMPILED", hall.meanTests(), 0.0);
        hall.nodesBySmallest();
        Due.badState("down(), when nothing is COMPILED but by nodesBySmallest()", () -> hall.down(0));
    }

    private static String treeOf(int... ends) {
        MatchwrightHall hall = new MatchwrightHall();
        for (int end = 0; end < ends.length; end += 2) {
            hall.add(hall.range(ends[end], ends[end + 1]), -1, 0);
        }
        hall.compile();
        return TreeTest.text(hall);
    }

    private static void endsOfRanges() {
        Due.sameText("all", treeOf(-99, 99), "TAKE0^0 TEST1^1(-99:0)");
        Due.sameText("the least", treeOf(-99, -99), "TAKE0^0 MISS^0 TEST1^1(-99:0,-98:1)");
        Due.sameText("but the least", treeOf(-98, 99), "MISS^0 TAKE0^0 TEST1^1(-99:0,-98:1)");
        Due.sameText("the greatest", treeOf(99, 99), "MISS^0 TAKE0^0 TEST1^1(-99:0,99:1)");
        Due.sameText("but the greatest", treeOf(-99, 98), "TAKE0^0 MISS^0 TEST1^1(-99:0,99:1)");
        Due.sameText("one beside the next", treeOf(0, 3, 4, 9),
                "MISS^0 TAKE0^0 TAKE1^0 TEST1^1(-99:0,0:1,4:2,10:0)");
        Due.sameText("one that has the end of the next", treeOf(0, 4, 4, 9),
                "MISS^0 TAKE0^0 TAKE1^0 TEST1^1(-99:0,0:1,4:1,5:2,10:0)");
        Due.sameText("one with a NUMBER between", treeOf(0, 3, 5, 9),
                "MISS^0 TAKE0^0 TAKE1^0 TEST1^1(-99:0,0:1,4:0,5:2,10:0)");
        Due.sameText("the same twice", treeOf(0, 3, 0, 3), "MISS^0 TAKE0^0 TEST1^1(-99:0,0:1,4:0)");
    }

    private static void numbersGoingDown() {
        int[][] ranges = {{-99, 99}, {-99, -99}, {-98, 99}, {99, 99}, {-99, 98}, {-3, 5}, {0, 0}};
        int[] numbers = {-99, -98, -4, -3, -1, 0, 1, 5, 6, 98, 99};
        for (int[] range : ranges) {
            MatchwrightHall hall = new MatchwrightHall();
            hall.add(hall.range(range[0], range[1]), -1, 0);
            hall.compile();
            for (int number : numbers) {
                int due = range[0] <= number && number <= range[1] ? 0 : -1;
                int value = hall.number(number);
                Due.same(number + " by a tree of " + range[0] + " to " + range[1], hall.down(value), due);
                Due.same("that is one TEST", hall.tests(value), 1);
            }
        }
    }

    /** Six cases of three RANGES each, of width NUMBERS; between two there are gap NUMBERS. */
    static MatchwrightHall eighteenRanges(int first, int width, int gap, int lastEnd) {
        MatchwrightHall hall = new MatchwrightHall();
        for (int number = 0; number < 6; number++) {
            int[] ranges = new int[3];
            for (int i = 0; i < 3; i++) {
                int low = first + (3 * number + i) * (width + gap);
                ranges[i] = hall.range(low, number == 5 && i == 2 ? lastEnd : low + width - 1);
            }
            hall.add(hall.either(hall.either(ranges[0], ranges[1]), ranges[2]), -1, 0);
        }
        return hall;
    }

    private static void widestNumberTest() {
        MatchwrightHall hall = eighteenRanges(-98, 1, 1, -64);
        Due.same("18 RANGES apart", hall.compile(), 8);
        Due.same("the MATRICES of 37 branches, and the first", hall.many(8), 38);
        Due.same("37 branches", hall.ofNode(7, 2), 37);
        for (int branch = 0; branch < 37; branch++) {
            Due.same("the branch " + branch + " is for", hall.branch(7, branch, 1), -99 + branch);
            int about = branch % 2 == 0 ? -1 : branch / 6;
            Due.same("the branch " + branch + " leads to", hall.ofNode(hall.branch(7, branch, 0), 1), about);
        }
        Due.outOfBounds("no branch 37", () -> hall.branch(7, 37, 0));
        hall.number(-64);
        hall.number(-63);
        hall.number(99);
        Due.same("the last RANGE", hall.down(0), 5);
        Due.same("behind it", hall.down(1), -1);
        Due.same("the greatest NUMBER", hall.down(2), -1);
    }

    private static void widestSealedTest() {
        MatchwrightHall hall = new MatchwrightHall();
        hall.type();
        for (int record = 0; record < 12; record++) {
            hall.record(1, -1, -1);
        }
        int[] leaves = new int[12];
        for (int record = 0; record < 12; record++) {
            leaves[record] = hall.isRecord(record, 0, 0);
            hall.make(record, 0, 0);
        }
        for (int number = 0; number < 5; number++) {
            hall.add(hall.either(leaves[2 * number], leaves[2 * number + 1]), -1, 0);
        }
        hall.add(leaves[10], -1, 0);
        Due.same("11 of 12 RECORDS", hall.compile(), 9);
        Due.same("13 branches", hall.ofNode(8, 2), 13);
        Due.same("the RECORD 10 is the last but one", hall.branch(8, 11, 1), 10);
        Due.same("OTHERS are the last", hall.branch(8, 12, 1), -2);
        Due.same("they are a MISS", hall.ofNode(hall.branch(8, 12, 0), 0), 0);
        Due.same("the RECORD 11 by OTHERS", hall.down(11), -1);
        hall.cut();
        hall.add(hall.either(leaves[10], leaves[11]), -1, 0);
        Due.same("12 of 12 RECORDS", hall.compile(), 9);
        Due.same("14 branches", hall.ofNode(8, 2), 14);
        Due.same("NULL is the first", hall.branch(8, 0, 1), -1);
        for (int record = 0; record < 12; record++) {
            Due.same("the RECORD " + record, hall.branch(8, record + 1, 1), record);
            Due.same("the RECORD " + record + " goes to", hall.down(record), record / 2);
        }
        Due.same("OTHERS are the last", hall.branch(8, 13, 1), -2);
        Due.same("they are NEW", hall.ofNode(hall.branch(8, 13, 0), 0), 5);
        Due.outOfBounds("no branch 14", () -> hall.branch(8, 14, 0));
        Due.same("12 branches and the first; REFUSE and NEW are none", hall.many(8), 13);
    }

    /** A way by TESTS of all 7 PLACES, and by 6 GUARDS; held is the CASE whose GUARD holds. */
    private static MatchwrightHall deep(int held) {
        MatchwrightHall hall = new MatchwrightHall();
        hall.type();
        hall.record(1, 1, 1);
        hall.record(1, 0, 0);
        int low = hall.range(0, 9);
        int any = hall.any(1);
        int[] names = {hall.name(0, 0), hall.name(0, 1), hall.name(0, 2), hall.name(0, 3)};
        for (int number = 0; number < 6; number++) {
            int name = names[number % 4];
            int inner = number % 2 == 0 ? hall.isRecord(1, name, low) : hall.isRecord(1, low, name);
            int whole = number % 4 < 2 ? hall.isRecord(0, inner, any) : hall.isRecord(0, any, inner);
            // The NUMBERS at the PLACES 4 to 7 are 4 to 7.
            int place = 4 + number % 4;
            hall.add(whole, number % 4, number == held ? place - 1 : place);
        }
        for (int number = 4; number <= 7; number++) {
            hall.number(number);
        }
        hall.make(1, 0, 1);
        hall.make(1, 2, 3);
        hall.make(0, 4, 5);
        return hall;
    }

    private static void deepestWay() {
        int[] dueTests = {3, 4, 6, 7, 7, 7};
        for (int held = 0; held < 6; held++) {
            MatchwrightHall hall = deep(held);
            Due.same("it is COMPILED", hall.compile() > 0, true);
            Due.same("7 TESTS are the most on a way", hall.ofNode(hall.many(7) - 1, 3), 7);
            Due.same("the GUARD that holds is that of " + held, hall.down(6), held);
            Due.same("takes() tells the same", hall.takes(6), held);
            Due.same("TESTS till " + held, hall.tests(6), dueTests[held]);
        }
        MatchwrightHall none = deep(-1);
        none.compile();
        Due.same("behind 6 GUARDS it is MISSED", none.down(6), -1);
        Due.same("by 7 TESTS", none.tests(6), 7);
    }

    private static void askedNames() {
        for (int name = 0; name <= 3; name++) {
            MatchwrightHall hall = new MatchwrightHall();
            hall.type();
            hall.record(1, 0, 0);
            hall.number(2);
            hall.number(8);
            int[] values = {hall.make(0, 0, 1), hall.make(0, 1, 0), hall.make(0, 1, 1), hall.make(0, 0, 0)};
            int named = hall.name(0, name);
            int low = hall.range(0, 3);
            int any = hall.any(0);
            hall.add(hall.isRecord(0, low, low), -1, 0);
            hall.add(hall.isRecord(0, named, any), name, 5);
            hall.add(hall.isRecord(0, any, named), name, 5);
            hall.compile();
            int[] due = {2, 1, 1, 0};
            for (int i = 0; i < 4; i++) {
                Due.same("NAME " + name + " at a PLACE that was TESTED", hall.down(values[i]), due[i]);
                Due.same("as takes() tells it", hall.takes(values[i]), due[i]);
            }
        }
    }

    // ---- what the NODES are

    private static void missOfAnEmptyMatrix() {
        MatchwrightHall hall = new MatchwrightHall();
        hall.add(hall.name(0, 3), 3, 0);
        Due.same("one CASE with a GUARD", hall.compile(), 2);
        Due.sameText("without it there are no ROWS", TreeTest.text(hall), "MISS^0 ASK0^0(-3:0)");
        Due.same("the MATRIX without ROWS counts", hall.many(8), 2);
        hall.add(hall.any(0), -1, 0);
        Due.same("with one behind it", hall.compile(), 2);
        Due.sameText("there is one ROW", TreeTest.text(hall), "TAKE1^0 ASK0^0(-3:0)");
        hall.cut();
        hall.cut();
        hall.add(1, -1, 0);
        Due.same("one OPEN CASE on NUMBER", hall.compile(), 1);
        Due.sameText("is no TEST", TreeTest.text(hall), "TAKE0^0");
        Due.same("one MATRIX", hall.many(8), 1);
    }

    private static void nullAtTheTop() {
        MatchwrightHall hall = new MatchwrightHall();
        hall.type();
        hall.record(1, -1, -1);
        hall.none(1);
        int any = hall.any(1);
        int nothing = hall.isNone(1);
        hall.add(any, -1, 0);
        hall.compile();
        Due.sameText("no ROW has NULL: REFUSE", TreeTest.text(hall), "REFUSE^0 TAKE0^0 TEST1^1(-1:0,-2:1)");
        Due.same("REFUSE is no MATRIX", hall.many(8), 2);
        Due.same("NULL is REFUSED", hall.down(0), -2);
        hall.add(nothing, -1, 0);
        hall.compile();
        Due.sameText("a ROW has NULL", TreeTest.text(hall), "TAKE1^0 TAKE0^0 TEST1^1(-1:0,-2:1)");
        Due.same("that is a MATRIX", hall.many(8), 3);
        Due.same("NULL is TAKEN", hall.down(0), 1);
        hall.cut();
        hall.cut();
        hall.add(hall.either(any, nothing), -1, 0);
        hall.compile();
        Due.sameText("a side has NULL", TreeTest.text(hall), "TAKE0^0 TEST1^1(-1:0,-2:0)");
        Due.same("each branch is worked on for itself", hall.many(8), 3);
    }

    private static void nullInAField() {
        MatchwrightHall hall = new MatchwrightHall();
        hall.type();
        hall.type();
        hall.record(1, 2, -1);
        hall.record(2, -1, -1);
        int bare = hall.isRecord(1, 0, 0);
        hall.add(hall.isRecord(0, bare, 0), -1, 0);
        hall.compile();
        Due.sameText("no ROW for NULL in a FIELD: MISS", TreeTest.text(hall),
                "REFUSE^0 MISS^0 TAKE0^0 NEW^0 TEST2^1(-1:1,1:2,-2:3) TEST1^2(-1:0,0:4,-2:3)");
        Due.same("that is a MATRIX, NEW is none", hall.many(8), 4);
        hall.none(2);
        int value = hall.make(0, 0, 0);
        Due.same("NULL in a FIELD is MISSED", hall.down(value), -1);
        hall.add(hall.isRecord(0, hall.any(2), 0), -1, 0);
        hall.compile();
        Due.same("an OPEN ROW has NULL in a FIELD", hall.down(value), 1);
    }

    /** What stands for the FIELDS of an OPEN ROW is ANY: it makes no branch of its own. */
    private static void fieldsOfOpenRows() {
        MatchwrightHall hall = new MatchwrightHall();
        hall.type();
        hall.record(1, 1, -1);
        hall.record(1, -1, -1);
        hall.add(hall.isRecord(0, hall.isRecord(1, 0, 0), 0), -1, 0);
        hall.add(hall.any(1), -1, 0);
        hall.compile();
        Due.sameText("ANY in the FIELD of an OPEN ROW", TreeTest.text(hall),
                "REFUSE^0 TAKE1^0 TAKE0^0 TEST2^1(-1:1,1:2,-2:1) TEST1^2(-1:0,0:3,-2:1)");
        hall.none(1);
        Due.same("it has NULL, but at the TOP", hall.down(hall.make(0, 0, 0)), 1);
        Due.same("NULL at the TOP", hall.down(0), -2);
    }

    private static void newOrOthers() {
        MatchwrightHall hall = new MatchwrightHall();
        hall.type();
        hall.type();
        hall.record(1, -1, -1);
        hall.record(1, -1, -1);
        hall.record(2, -1, -1);
        hall.add(hall.isRecord(0, 0, 0), -1, 0);
        hall.compile();
        Due.sameText("one RECORD of two: OTHERS are a MISS", TreeTest.text(hall),
                "REFUSE^0 TAKE0^0 MISS^0 TEST1^1(-1:0,0:1,-2:2)");
        Due.same("that is a MATRIX", hall.many(8), 3);
        hall.add(hall.isRecord(1, 0, 0), -1, 0);
        hall.compile();
        Due.sameText("two RECORDS of two: NEW", TreeTest.text(hall),
                "REFUSE^0 TAKE0^0 TAKE1^0 NEW^0 TEST1^1(-1:0,0:1,1:2,-2:3)");
        Due.same("that is none", hall.many(8), 3);
        hall.add(hall.any(1), -1, 0);
        hall.compile();
        Due.sameText("an OPEN ROW is left: OTHERS", TreeTest.text(hall),
                "REFUSE^0 TAKE0^0 TAKE1^0 TAKE2^0 TEST1^1(-1:0,0:1,1:2,-2:3)");
        hall.cut();
        hall.compile();
        hall.record(2, -1, -1);
        hall.compile();
        Due.same("a RECORD more of another TYPE: NEW", hall.ofNode(hall.branch(4, 3, 0), 0), 5);
        hall.record(1, -1, -1);
        Due.same("a RECORD more, but not yet in the tree", hall.ofNode(hall.branch(4, 3, 0), 0), 5);
        Due.same("it is UNKNOWN", hall.down(hall.make(4, 0, 0)), -3);
        hall.compile();
        Due.same("a RECORD more: a MISS", hall.ofNode(hall.branch(4, 3, 0), 0), 0);
        Due.same("it is MISSED", hall.down(0), -1);
    }

    private static void weightsOfColumns() {
        MatchwrightHall hall = new MatchwrightHall();
        hall.type();
        hall.record(1, 0, 0);
        int any = hall.any(0);
        int low = hall.range(0, 3);
        int both = hall.isRecord(0, low, low);
        int left = hall.isRecord(0, low, any);
        int right = hall.isRecord(0, any, low);
        Due.same("of one WEIGHT the smallest PLACE", secondTest(hall, both), 2);
        Due.same("no ROW is OPEN in both: alike", secondTest(hall, both, both), 2);
        Due.same("1 at PLACE 2, 2 at PLACE 3", secondTest(hall, both, right), 3);
        Due.same("2 at PLACE 2, 1 at PLACE 3", secondTest(hall, both, left), 2);
        Due.same("1 at PLACE 2, all 3 at PLACE 3", secondTest(hall, both, right, both), 3);
        Due.same("2 at PLACE 2, then 1 ahead of an OPEN one at PLACE 3", secondTest(hall, both, left, right, right), 2);
        Due.same("0 at PLACE 2", secondTest(hall, right, left, left), 3);
        Due.same("0 at PLACE 3", secondTest(hall, left, right, right), 2);
        int open = hall.isRecord(0, hall.either(low, any), low);
        Due.same("an EITHER with an OPEN side is OPEN", secondTest(hall, open), 3);
        int two = hall.isRecord(0, low, hall.either(low, low));
        int none = hall.isRecord(0, any, any);
        Due.same("an EITHER is one ROW when WEIGHTS are told", secondTest(hall, two, none), 2);
    }

    /** The PLACE that is TESTED behind the TOP. */
    private static int secondTest(MatchwrightHall hall, int... patterns) {
        while (hall.many(4) > 0) {
            hall.cut();
        }
        for (int pattern : patterns) {
            hall.add(pattern, -1, 0);
        }
        hall.compile();
        return hall.ofNode(hall.branch(hall.many(7) - 1, 1, 0), 1);
    }

    private static void splitRows() {
        MatchwrightHall hall = new MatchwrightHall();
        hall.type();
        hall.record(1, 0, -1);
        int low = hall.range(0, 3);
        int next = hall.range(4, 9);
        int two = hall.either(low, next);
        int three = hall.either(low, hall.either(next, hall.range(20, 29)));
        hall.add(hall.isRecord(0, two, 0), -1, 0);
        hall.compile();
        Due.sameText("two ROWS, though the same is left of them", TreeTest.text(hall),
                "REFUSE^0 MISS^0 TAKE0^0 TEST2^1(-99:1,0:2,4:2,10:1) NEW^0 TEST1^2(-1:0,0:3,-2:4)");
        hall.cut();
        hall.add(hall.isRecord(0, three, 0), -1, 0);
        hall.compile();
        Due.sameText("three ROWS, as long as there is an EITHER", TreeTest.text(hall),
                "REFUSE^0 MISS^0 TAKE0^0 TEST2^1(-99:1,0:2,4:2,10:1,20:2,30:1) NEW^0 TEST1^2(-1:0,0:3,-2:4)");
        hall.cut();
        hall.add(hall.either(hall.isRecord(0, low, 0), hall.any(1)), -1, 0);
        hall.compile();
        Due.sameText("an OPEN side behind the first one", TreeTest.text(hall),
                "REFUSE^0 TAKE0^0 TEST2^1(-99:1,0:1,4:1) TEST1^2(-1:0,0:2,-2:1)");
        hall.cut();
        hall.add(hall.either(hall.any(1), hall.isRecord(0, low, 0)), -1, 0);
        hall.compile();
        Due.sameText("an OPEN side ahead of the other", TreeTest.text(hall),
                "REFUSE^0 TAKE0^0 TEST1^1(-1:0,0:1,-2:1)");
    }

    private static void nodesThatAreOne() {
        MatchwrightHall hall = new MatchwrightHall();
        hall.type();
        hall.record(1, 0, 0);
        int any = hall.any(0);
        int low = hall.range(0, 3);
        hall.add(hall.isRecord(0, low, any), -1, 0);
        hall.add(hall.isRecord(0, any, low), -1, 0);
        hall.compile();
        Due.sameText("TAKES of two CASES are two, a MISS is one", TreeTest.text(hall),
                "REFUSE^0 MISS^0 TAKE1^0 TEST3^1(-99:1,0:2,4:1) TAKE0^0 TEST2^2(-99:3,0:4,4:3) NEW^0"
                + " TEST1^3(-1:0,0:5,-2:6)");
        MatchwrightHall labels = new MatchwrightHall();
        labels.type();
        labels.record(1, 0, -1);
        labels.record(1, 0, -1);
        int zero = labels.isRecord(0, labels.range(0, 3), 0);
        int one = labels.isRecord(1, labels.range(0, 4), 0);
        labels.add(labels.either(zero, one), -1, 0);
        labels.compile();
        Due.sameText("TESTS for other ranges are two", TreeTest.text(labels),
                "REFUSE^0 MISS^0 TAKE0^0 TEST2^1(-99:1,0:2,4:1) TEST2^1(-99:1,0:2,5:1) NEW^0"
                + " TEST1^2(-1:0,0:3,1:4,-2:5)");
    }

    // ---- promise 20

    /** MISS 0, TAKE1 1, TEST1 2, ASK0 3 of NUMBER. */
    private static MatchwrightHall ofNumber() {
        MatchwrightHall hall = new MatchwrightHall();
        hall.number(5);
        hall.add(hall.name(0, 0), 0, 50);
        hall.add(hall.range(0, 9), -1, 0);
        hall.compile();
        return hall;
    }

    private static void nodesAndWhat() {
        MatchwrightHall hall = ofNumber();
        Due.outOfBounds("NODE -1", () -> hall.ofNode(-1, 0));
        Due.outOfBounds("NODE 4 of 4", () -> hall.ofNode(4, 0));
        Due.outOfBounds("the least NODE", () -> hall.ofNode(MIN, 0));
        Due.outOfBounds("the greatest NODE", () -> hall.ofNode(MAX, 0));
        int[][] due = {{0, -1, 0, 0}, {1, 1, 0, 0}, {3, 1, 3, 1}, {2, 0, 1, 1}};
        for (int node = 0; node < 4; node++) {
            int asked = node;
            Due.badArgument("what -1", () -> hall.ofNode(asked, -1));
            for (int what = 0; what <= 3; what++) {
                Due.same("ofNode(" + node + ", " + what + ")", hall.ofNode(node, what), due[node][what]);
            }
            Due.badArgument("what 4", () -> hall.ofNode(asked, 4));
            Due.badArgument("the least what", () -> hall.ofNode(asked, MIN));
            Due.badArgument("the greatest what", () -> hall.ofNode(asked, MAX));
        }
        MatchwrightHall sealed = new MatchwrightHall();
        sealed.type();
        sealed.record(1, -1, -1);
        sealed.add(sealed.isRecord(0, 0, 0), -1, 0);
        sealed.compile();
        int[][] dueSealed = {{4, -1, 0, 0}, {1, 0, 0, 0}, {5, -1, 0, 0}, {3, 1, 3, 1}};
        for (int node = 0; node < 4; node++) {
            for (int what = 0; what <= 3; what++) {
                Due.same("ofNode(" + node + ", " + what + ")", sealed.ofNode(node, what), dueSealed[node][what]);
            }
        }
        Due.outOfBounds("NODE 4 of 4", () -> sealed.ofNode(4, 0));
    }

    // ---- promise 21

    private static void branchesAndWhat() {
        MatchwrightHall hall = ofNumber();
        Due.outOfBounds("NODE -1", () -> hall.branch(-1, 0, 0));
        Due.outOfBounds("NODE 4 of 4", () -> hall.branch(4, 0, 0));
        Due.outOfBounds("the least NODE", () -> hall.branch(MIN, 0, 0));
        Due.outOfBounds("the greatest NODE", () -> hall.branch(MAX, 0, 0));
        Due.outOfBounds("no branch 0 of a MISS", () -> hall.branch(0, 0, 0));
        Due.outOfBounds("no branch 0 of a TAKE", () -> hall.branch(1, 0, 0));
        Due.outOfBounds("no branch -1 of a TEST", () -> hall.branch(2, -1, 0));
        Due.same("the branch 0 of a TEST", hall.branch(2, 0, 1), -99);
        Due.same("the branch 1 of a TEST", hall.branch(2, 1, 1), 0);
        Due.same("the branch 2 of a TEST, the last", hall.branch(2, 2, 1), 10);
        Due.same("leads to the MISS", hall.branch(2, 2, 0), 0);
        Due.same("the branch 1 leads to the TAKE", hall.branch(2, 1, 0), 1);
        Due.outOfBounds("no branch 3 of 3", () -> hall.branch(2, 3, 0));
        Due.outOfBounds("the least branch", () -> hall.branch(2, MIN, 0));
        Due.outOfBounds("the greatest branch", () -> hall.branch(2, MAX, 0));
        Due.outOfBounds("no branch -1 of an ASK", () -> hall.branch(3, -1, 0));
        Due.same("the branch 0 of an ASK", hall.branch(3, 0, 1), -3);
        Due.same("leads to the TEST", hall.branch(3, 0, 0), 2);
        Due.outOfBounds("no branch 1 of an ASK", () -> hall.branch(3, 1, 0));
        Due.badArgument("what -1", () -> hall.branch(2, 0, -1));
        Due.badArgument("what 2", () -> hall.branch(2, 0, 2));
        Due.badArgument("the least what", () -> hall.branch(2, 0, MIN));
        Due.badArgument("the greatest what", () -> hall.branch(2, 0, MAX));
        MatchwrightHall sealed = new MatchwrightHall();
        sealed.type();
        sealed.record(1, -1, -1);
        sealed.add(sealed.isRecord(0, 0, 0), -1, 0);
        sealed.compile();
        Due.outOfBounds("no branch 0 of a REFUSE", () -> sealed.branch(0, 0, 0));
        Due.outOfBounds("no branch 0 of a NEW", () -> sealed.branch(2, 0, 0));
        Due.same("for NULL", sealed.branch(3, 0, 1), -1);
        Due.same("for the RECORD 0", sealed.branch(3, 1, 1), 0);
        Due.same("for OTHERS", sealed.branch(3, 2, 1), -2);
    }

    // ---- promises 22 and 23

    private static void valuesGoingDown() {
        MatchwrightHall hall = new MatchwrightHall();
        hall.type();
        hall.number(5);
        hall.none(1);
        hall.number(6);
        Due.badState("down() of NUMBER, when nothing was COMPILED", () -> hall.down(0));
        Due.badState("down() of another, when nothing was COMPILED", () -> hall.down(1));
        Due.badState("tests(), when nothing was COMPILED", () -> hall.tests(2));
        hall.add(hall.any(0), -1, 0);
        Due.badState("down(), when there are CASES alone", () -> hall.down(0));
        hall.compile();
        Due.outOfBounds("down(-1)", () -> hall.down(-1));
        Due.same("down(0), by a tree of one NODE", hall.down(0), 0);
        Due.same("down(2), the last VALUE", hall.down(2), 0);
        Due.outOfBounds("down(3) of 3", () -> hall.down(3));
        Due.outOfBounds("down(MIN)", () -> hall.down(MIN));
        Due.outOfBounds("down(MAX)", () -> hall.down(MAX));
        Due.badArgument("down() of another TYPE", () -> hall.down(1));
        Due.outOfBounds("tests(-1)", () -> hall.tests(-1));
        Due.same("tests(0), by no TEST", hall.tests(0), 0);
        Due.same("tests(2), the last VALUE", hall.tests(2), 0);
        Due.outOfBounds("tests(3) of 3", () -> hall.tests(3));
        Due.outOfBounds("tests(MIN)", () -> hall.tests(MIN));
        Due.outOfBounds("tests(MAX)", () -> hall.tests(MAX));
        Due.badArgument("tests() of another TYPE", () -> hall.tests(1));
        hall.cut();
        hall.add(hall.isNone(1), -1, 0);
        Due.badArgument("down() of the TYPE of the CASES", () -> hall.down(1));
        Due.same("down() of the TYPE of what was COMPILED", hall.down(0), 0);
        hall.compile();
        Due.same("down(), when that is COMPILED", hall.down(1), 0);
        Due.badArgument("down() of what was COMPILED before", () -> hall.down(0));
    }

    private static void asTheyWereThen() {
        MatchwrightHall hall = new MatchwrightHall();
        int[] numbers = {5, 6};
        for (int number : numbers) {
            hall.number(number);
        }
        int name = hall.name(0, 0);
        hall.add(name, 0, 5);
        hall.compile();
        hall.cut();
        Due.same("without its CASE: 5 is not above 5", hall.down(0), -1);
        Due.same("without its CASE: 6 is above 5", hall.down(1), 0);
        hall.add(name, 0, 4);
        Due.same("another GUARD in its place", hall.down(0), -1);
        Due.same("takes() knows that", hall.takes(0), 0);
        hall.nodesBySmallest();
        Due.same("nodesBySmallest() changes no GUARD", hall.down(0), -1);
        hall.compile();
        Due.same("COMPILED again", hall.down(0), 0);
    }

    // ---- promise 24

    private static void whatOfMany() {
        MatchwrightHall hall = Halls.full();
        Due.badArgument("many(-1)", () -> hall.many(-1));
        Due.same("many(0), the most TYPES", hall.many(0), 5);
        Due.same("many(1), the most RECORDS", hall.many(1), 12);
        Due.same("many(2), the most VALUES", hall.many(2), 40);
        Due.same("many(3), the most PATTERNS", hall.many(3), 40);
        Due.same("many(4), the most CASES", hall.many(4), 6);
        Due.same("many(5), all but none are REACHED", hall.many(5), 6);
        Due.same("many(6), a RECORD is MISSING", hall.many(6), 1);
        Due.same("many(10)", hall.many(10), 1);
        Due.badArgument("many(11)", () -> hall.many(11));
        Due.badArgument("many(MIN)", () -> hall.many(MIN));
        Due.badArgument("many(MAX)", () -> hall.many(MAX));
    }

    private static void countsOfATree() {
        MatchwrightHall hall = new MatchwrightHall();
        hall.type();
        int any = hall.any(0);
        for (int what = 5; what <= 10; what++) {
            Due.same("many(" + what + ") without CASES", hall.many(what), 0);
        }
        hall.add(any, -1, 0);
        for (int what = 7; what <= 9; what++) {
            Due.same("many(" + what + "), when nothing was COMPILED", hall.many(what), 0);
        }
        Due.same("many(5) of one CASE", hall.many(5), 1);
        Due.same("many(6), when nothing is MISSING", hall.many(6), 0);
        hall.compile();
        Due.same("many(7) of one NODE", hall.many(7), 1);
        Due.same("many(8) of one MATRIX", hall.many(8), 1);
        Due.same("many(9) without TESTS", hall.many(9), 0);
        hall.cut();
        Due.same("many(5), when all are cut", hall.many(5), 0);
        Due.same("many(6), when all are cut", hall.many(6), 0);
        Due.same("many(7), when all are cut", hall.many(7), 1);
        hall.add(hall.range(-99, 98), -1, 0);
        Due.same("many(6), when 99 is MISSING", hall.many(6), 1);
        hall.compile();
        Due.same("many(7)", hall.many(7), 3);
        Due.same("many(8)", hall.many(8), 3);
        Due.same("many(9)", hall.many(9), 1);
        countsOfASmallerTree();
    }

    private static void countsOfASmallerTree() {
        MatchwrightHall hall = new MatchwrightHall();
        int any = hall.any(0);
        int least = hall.range(-99, -99);
        hall.add(hall.range(-99, 99), -1, 0);
        hall.compile();
        hall.cut();
        hall.add(any, -1, 0);
        for (int times = 0; times < 3; times++) {
            hall.compile();
            Due.same("many(7) of a smaller tree", hall.many(7), 1);
            Due.same("many(8) of a smaller tree", hall.many(8), 1);
            Due.same("many(9) of a smaller tree", hall.many(9), 0);
        }
        hall.cut();
        hall.add(least, -1, 0);
        Due.same("nodesBySmallest() of a greater one", hall.nodesBySmallest(), 3);
        Due.same("many(9) of the tree that stays", hall.many(9), 0);
    }

    private static void missedValues() {
        MatchwrightHall hall = new MatchwrightHall();
        hall.type();
        hall.record(1, -1, -1);
        hall.record(1, -1, -1);
        hall.make(0, 0, 0);
        hall.none(1);
        hall.number(5);
        hall.make(1, 0, 0);
        Due.same("without CASES none is counted", hall.many(10), 0);
        hall.add(hall.isNone(1), -1, 0);
        Due.same("the first VALUE and the last, of one TYPE", hall.many(10), 2);
        hall.add(hall.isRecord(0, 0, 0), -1, 0);
        Due.same("the last VALUE", hall.many(10), 1);
        hall.cut();
        hall.cut();
        hall.add(hall.isRecord(1, 0, 0), -1, 0);
        Due.same("the first VALUE, and no NULL that is REFUSED", hall.many(10), 1);
        hall.add(hall.isRecord(0, 0, 0), -1, 0);
        Due.same("none", hall.many(10), 0);
    }

    // ---- promise 25

    private static void meansOfValues() {
        MatchwrightHall hall = new MatchwrightHall();
        hall.type();
        hall.record(1, 0, -1);
        Due.same("when nothing was COMPILED", hall.meanTests(), 0.0);
        hall.number(5);
        Due.same("of a VALUE, when nothing was COMPILED", hall.meanTests(), 0.0);
        int low = hall.isRecord(0, hall.range(0, 3), 0);
        hall.add(low, -1, 0);
        Due.same("of CASES, when nothing was COMPILED", hall.meanTests(), 0.0);
        hall.compile();
        Due.same("without a VALUE on the TYPE", hall.meanTests(), 0.0);
        hall.make(0, 0, 0);
        Due.same("of one", hall.meanTests(), 2.0);
        hall.none(1);
        Due.same("of two", hall.meanTests(), 1.5);
        hall.none(1);
        Due.same("of three, not cut", hall.meanTests(), 4.0 / 3.0);
        MatchwrightHall first = new MatchwrightHall();
        first.number(5);
        first.add(first.range(0, 3), -1, 0);
        first.compile();
        Due.same("of the VALUE 0 alone", first.meanTests(), 1.0);
        first.cut();
        first.add(first.any(0), -1, 0);
        Due.same("of what was COMPILED, not of the CASES", first.meanTests(), 1.0);
        first.compile();
        Due.same("without TESTS", first.meanTests(), 0.0);
    }

    // ---- of several exceptions the one that is named first

    private static void severalExceptions() {
        MatchwrightHall hall = ofNumber();
        hall.type();
        hall.none(1);
        Due.outOfBounds("ofNode(): no NODE, no what", () -> hall.ofNode(4, 4));
        Due.outOfBounds("branch(): no NODE, no branch, no what", () -> hall.branch(4, 9, 2));
        Due.outOfBounds("branch(): no branch, no what", () -> hall.branch(2, 3, 2));
        Due.outOfBounds("branch(): no branch of a MISS, no what", () -> hall.branch(0, 0, -1));
        MatchwrightHall none = new MatchwrightHall();
        Due.outOfBounds("down(): no VALUE, nothing COMPILED", () -> none.down(0));
        Due.outOfBounds("tests(): no VALUE, nothing COMPILED", () -> none.tests(-1));
        Due.outOfBounds("ofNode(): nothing COMPILED, no what", () -> none.ofNode(0, 4));
        Due.outOfBounds("branch(): nothing COMPILED, no what", () -> none.branch(0, 0, 2));
    }
}
