import java.math.BigInteger;

/** Promises 26 to 31 at their edges: the last that is allowed, and the first that is not. */
public final class EdgesOfAllValuesTest {
    private static final int MIN = Integer.MIN_VALUE;
    private static final int MAX = Integer.MAX_VALUE;

    public static void main(String[] args) {
        casesThatAreReached();
        reachedByOneNumber();
        reachedByNull();
        reachedInAField();
        placesOfTheMissing();
        missingAsFirstQuestion();
        missingNumbers();
        missingBehindEighteenRanges();
        missingRecords();
        missingOrder();
        missingAtEachPlace();
        missingBelowAllPatterns();
        nothingIsMissing();
        takingWithout();
        missingWithout();
        smallestOfNoneAndOne();
        smallestPlaces();
        limitOfMatrices();
        digestOfANewHall();
        digestsWrapAround();
        digestOfAFullHall();
        severalExceptions();
        fiveHundredAndTwelveCalls();
        Due.end();
    }

    // ---- promise 26

    private static void casesThatAreReached() {
        MatchwrightHall hall = new MatchwrightHall();
        Due.outOfBounds("CASE 0, if there is none", () -> hall.isReached(0));
        int low = hall.range(0, 3);
        int all = hall.any(0);
        hall.add(low, -1, 0);
        Due.same("CASE 0, the only one", hall.isReached(0), true);
        Due.outOfBounds("CASE 1 of 1", () -> hall.isReached(1));
        hall.add(all, -1, 0);
        hall.add(low, -1, 0);
        Due.outOfBounds("CASE -1", () -> hall.isReached(-1));
        Due.same("CASE 0, the first", hall.isReached(0), true);
        Due.same("CASE 1", hall.isReached(1), true);
        Due.same("CASE 2, the last", hall.isReached(2), false);
        Due.outOfBounds("CASE 3 of 3", () -> hall.isReached(3));
        Due.outOfBounds("the least CASE", () -> hall.isReached(MIN));
        Due.outOfBounds("the greatest CASE", () -> hall.isReached(MAX));
        Due.same("two are", hall.many(5), 2);
    }

    private static boolean reachesBehind(int low, int high, int... ahead) {
        MatchwrightHall hall = new MatchwrightHall();
        for (int end = 0; end < ahead.length; end += 2) {
            hall.add(hall.range(ahead[end], ahead[end + 1]), -1, 0);
        }
        hall.add(hall.range(low, high), -1, 0);
        return hall.isReached(hall.many(4) - 1);
    }

    private static void reachedByOneNumber() {
        Due.same("just had", reachesBehind(0, 9, 0, 9), false);
        Due.same("but its first NUMBER", reachesBehind(0, 9, 1, 9), true);
        Due.same("but its last NUMBER", reachesBehind(0, 9, 0, 8), true);
        Due.same("had by two side by side", reachesBehind(0, 9, 0, 4, 5, 9), false);
        Due.same("but the NUMBER between", reachesBehind(0, 9, 0, 4, 6, 9), true);
        Due.same("all is had", reachesBehind(-99, 99, -99, 99), false);
        Due.same("but -99", reachesBehind(-99, 99, -98, 99), true);
        Due.same("but 99", reachesBehind(-99, 99, -99, 98), true);
        MatchwrightHall guards = new MatchwrightHall();
        int name = guards.name(0, 0);
        guards.add(name, 0, MIN);
        guards.add(name, -1, 0);
        guards.add(name, 0, MAX);
        Due.same("behind a GUARD that always holds", guards.isReached(1), true);
        Due.same("behind one without a GUARD", guards.isReached(2), false);
        guards.cut();
        guards.cut();
        guards.add(name, 0, MAX);
        Due.same("with a GUARD that never holds", guards.isReached(1), true);
    }

    private static void reachedByNull() {
        MatchwrightHall hall = new MatchwrightHall();
        hall.type();
        int any = hall.any(1);
        int nothing = hall.isNone(1);
        int both = hall.either(any, nothing);
        hall.add(any, -1, 0);
        Due.same("ANY on a TYPE without RECORDS", hall.isReached(0), false);
        hall.add(nothing, -1, 0);
        Due.same("NULL behind ANY", hall.isReached(1), true);
        hall.add(both, -1, 0);
        Due.same("both behind both", hall.isReached(2), false);
        hall.record(1, -1, -1);
        Due.same("ANY, with a RECORD", hall.isReached(0), true);
        Due.same("both behind both, with a RECORD", hall.isReached(2), false);
        hall.cut();
        hall.cut();
        hall.add(both, -1, 0);
        Due.same("both behind ANY", hall.isReached(1), true);
    }

    private static void reachedInAField() {
        MatchwrightHall hall = new MatchwrightHall();
        hall.type();
        hall.record(1, 1, -1);
        int any = hall.any(1);
        int nothing = hall.isNone(1);
        int inner = hall.isRecord(0, any, 0);
        hall.add(hall.isRecord(0, nothing, 0), -1, 0);
        hall.add(hall.isRecord(0, inner, 0), -1, 0);
        hall.add(hall.isRecord(0, any, 0), -1, 0);
        Due.same("NULL and the only RECORD in a FIELD are had", hall.isReached(2), false);
        hall.record(1, -1, -1);
        Due.same("a RECORD more is one that is left", hall.isReached(2), true);
    }

    // ---- promise 27

    private static void placesOfTheMissing() {
        MatchwrightHall hall = new MatchwrightHall();
        Due.badArgument("PLACE 0", () -> hall.missing(0));
        Due.same("PLACE 1 without CASES", hall.missing(1), -2);
        Due.same("PLACE 63 without CASES", hall.missing(63), -2);
        Due.badArgument("PLACE 64", () -> hall.missing(64));
        Due.badArgument("PLACE -1", () -> hall.missing(-1));
        Due.badArgument("the least PLACE", () -> hall.missing(MIN));
        Due.badArgument("the greatest PLACE", () -> hall.missing(MAX));
        hall.add(hall.range(-98, 99), -1, 0);
        Due.badArgument("PLACE 0 with CASES", () -> hall.missing(0));
        Due.same("PLACE 1", hall.missing(1), 901);
        for (int place = 2; place <= 63; place++) {
            Due.same("a NUMBER has no PLACE " + place, hall.missing(place), -2);
        }
        Due.badArgument("PLACE 64 with CASES", () -> hall.missing(64));
    }

    /** No earlier question has told the hall what is not there. */
    private static void missingAsFirstQuestion() {
        for (int place = 1; place <= 63; place++) {
            MatchwrightHall none = new MatchwrightHall();
            Due.same("without CASES first the PLACE " + place, none.missing(place), -2);
            MatchwrightHall number = new MatchwrightHall();
            number.add(number.range(-99, -99), -1, 0);
            Due.same("of a NUMBER first the PLACE " + place, number.missing(place), place == 1 ? 902 : -2);
            MatchwrightHall bare = new MatchwrightHall();
            bare.type();
            bare.record(1, -1, -1);
            bare.add(bare.isNone(1), -1, 0);
            Due.same("of a RECORD first the PLACE " + place, bare.missing(place), place == 1 ? 0 : -2);
            MatchwrightHall full = new MatchwrightHall();
            full.add(full.any(0), -1, 0);
            Due.same("of nothing first the PLACE " + place, full.missing(place), -2);
        }
    }

    private static int missingBut(int... had) {
        MatchwrightHall hall = new MatchwrightHall();
        for (int end = 0; end < had.length; end += 2) {
            hall.add(hall.range(had[end], had[end + 1]), -1, 0);
        }
        Due.same("many(6) tells it", hall.many(6), hall.missing(1) == -2 ? 0 : 1);
        return hall.missing(1);
    }

    private static void missingNumbers() {
        Due.same("but -98 to 99", missingBut(-98, 99), 901);
        Due.same("but -99", missingBut(-99, -99), 902);
        Due.same("but -99 to 98", missingBut(-99, 98), 1099);
        Due.same("but all", missingBut(-99, 99), -2);
        Due.same("but -99 to -1, and 1 to 99", missingBut(-99, -1, 1, 99), 1000);
        Due.same("but 1 to 99, and -99 to 0", missingBut(1, 99, -99, 0), -2);
        Due.same("but 99, and -98 to 98", missingBut(99, 99, -98, 98), 901);
    }

    private static void missingBehindEighteenRanges() {
        MatchwrightHall hall = EdgesOfTreesTest.eighteenRanges(-99, 11, 0, 98);
        Due.same("18 RANGES till 98", hall.missing(1), 1099);
        Due.same("their last is REACHED", hall.isReached(5), true);
        MatchwrightHall all = EdgesOfTreesTest.eighteenRanges(-99, 11, 0, 99);
        Due.same("18 RANGES till 99", all.missing(1), -2);
        MatchwrightHall apart = EdgesOfTreesTest.eighteenRanges(-99, 10, 1, 98);
        Due.same("18 RANGES apart", apart.missing(1), 1000 - 89);
        MatchwrightHall field = inTheField(98);
        Due.same("18 RANGES till 98 in a FIELD", field.missing(2), 1099);
        Due.same("and of that RECORD", field.missing(1), 0);
        Due.same("18 RANGES till 99 in a FIELD", inTheField(99).many(6), 0);
    }

    private static MatchwrightHall inTheField(int lastEnd) {
        MatchwrightHall hall = new MatchwrightHall();
        hall.type();
        hall.record(1, 0, -1);
        for (int number = 0; number < 6; number++) {
            int[] ranges = new int[3];
            for (int i = 0; i < 3; i++) {
                int low = -99 + (3 * number + i) * 11;
                ranges[i] = hall.range(low, number == 5 && i == 2 ? lastEnd : low + 10);
            }
            int three = hall.either(ranges[0], hall.either(ranges[1], ranges[2]));
            hall.add(hall.isRecord(0, three, 0), -1, 0);
        }
        return hall;
    }

    private static String missing(MatchwrightHall hall) {
        StringBuilder told = new StringBuilder();
        for (int place = 1; place <= 63; place++) {
            if (hall.missing(place) != -2) {
                told.append(told.length() == 0 ? "" : " ").append(place).append('=').append(hall.missing(place));
            }
        }
        return told.toString();
    }

    private static void missingRecords() {
        MatchwrightHall hall = new MatchwrightHall();
        hall.type();
        int nothing = hall.isNone(1);
        hall.add(nothing, -1, 0);
        Due.sameText("a TYPE without RECORDS", missing(hall), "");
        hall.record(1, -1, -1);
        Due.sameText("its first RECORD", missing(hall), "1=0");
        hall.add(hall.isRecord(0, 0, 0), -1, 0);
        Due.sameText("none is left", missing(hall), "");
        for (int record = 1; record < 12; record++) {
            hall.record(1, -1, -1);
        }
        Due.sameText("the next RECORD", missing(hall), "1=1");
        int[] leaves = new int[12];
        for (int record = 1; record < 12; record++) {
            leaves[record] = hall.isRecord(record, 0, 0);
        }
        hall.add(hall.either(leaves[1], hall.either(leaves[2], leaves[3])), -1, 0);
        hall.add(hall.either(leaves[4], hall.either(leaves[5], leaves[6])), -1, 0);
        hall.add(hall.either(leaves[7], hall.either(leaves[8], leaves[9])), -1, 0);
        Due.sameText("the RECORD 10", missing(hall), "1=10");
        hall.add(leaves[10], -1, 0);
        Due.sameText("the RECORD 11, the last", missing(hall), "1=11");
        hall.cut();
        hall.add(hall.either(leaves[10], leaves[11]), -1, 0);
        Due.sameText("12 of 12", missing(hall), "");
        hall.cut();
        hall.add(hall.any(1), -1, 0);
        Due.sameText("ANY has the rest", missing(hall), "");
    }

    private static void missingOrder() {
        MatchwrightHall hall = new MatchwrightHall();
        hall.type();
        hall.record(1, 1, 1);
        hall.record(1, 0, 0);
        int number = hall.any(0);
        int any = hall.any(1);
        int nothing = hall.isNone(1);
        int least = hall.range(-99, -99);
        hall.add(hall.isRecord(0, nothing, any), -1, 0);
        hall.add(hall.isRecord(0, hall.isRecord(0, any, any), any), -1, 0);
        hall.add(hall.isRecord(0, hall.isRecord(1, number, least), nothing), -1, 0);
        Due.sameText("all in FIELD 0 is ahead of FIELD 1", missing(hall), "1=0 2=1 3=0 4=901 5=901 6=-1 7=-1");
        hall.add(hall.isRecord(0, hall.isRecord(1, least, number), any), -1, 0);
        Due.sameText("the PLACE 4 is ahead of 5", missing(hall), "1=0 2=1 3=0 4=902 5=901 6=-1 7=-1");
        hall.add(hall.isRecord(0, hall.isRecord(1, number, least), any), -1, 0);
        Due.sameText("NULL is less than RECORDS", missing(hall), "1=0 2=1 3=-1 4=902 5=902");
    }

    private static void missingAtEachPlace() {
        MatchwrightHall hall = new MatchwrightHall();
        hall.type();
        hall.record(1, 1, 1);
        hall.record(1, 0, 0);
        int number = hall.any(0);
        int any = hall.any(1);
        int zero = hall.range(-99, 0);
        hall.add(hall.isRecord(0, any, hall.isNone(1)), -1, 0);
        Due.sameText("NULL in FIELD 1 is had", missing(hall), "1=0 2=-1 3=0 6=-1 7=-1");
        hall.add(hall.isRecord(0, any, hall.isRecord(0, any, any)), -1, 0);
        Due.sameText("the RECORD 0 in FIELD 1 is had", missing(hall), "1=0 2=-1 3=1 6=901 7=901");
        hall.add(hall.isRecord(0, any, hall.isRecord(1, zero, number)), -1, 0);
        Due.sameText("-99 to 0 at the PLACE 6 is had", missing(hall), "1=0 2=-1 3=1 6=1001 7=901");
        hall.add(hall.isRecord(0, any, hall.isRecord(1, number, zero)), -1, 0);
        Due.sameText("-99 to 0 at the PLACE 7 is had", missing(hall), "1=0 2=-1 3=1 6=1001 7=1001");
        int one = hall.range(1, 1);
        hall.add(hall.isRecord(0, any, hall.isRecord(1, one, number)), -1, 0);
        Due.sameText("1 at the PLACE 6 is had", missing(hall), "1=0 2=-1 3=1 6=1002 7=1001");
        hall.cut();
        hall.add(hall.isRecord(0, any, hall.isRecord(1, hall.range(-99, 99), number)), -1, 0);
        Due.sameText("all of the RECORD 0 is had", missing(hall), "1=1 2=901 3=901");
    }

    /** At the PLACES 8 to 15 no PATTERN can ask for anything: the least is there, NULL or -99. */
    private static void missingBelowAllPatterns() {
        MatchwrightHall hall = new MatchwrightHall();
        hall.type();
        hall.type();
        hall.record(1, 2, 2);
        hall.record(2, 2, 0);
        int any = hall.any(2);
        int number = hall.any(0);
        int nothing = hall.isNone(2);
        int noLeft = hall.isRecord(1, nothing, number);
        hall.add(hall.isRecord(0, nothing, any), -1, 0);
        hall.add(hall.isRecord(0, any, nothing), -1, 0);
        Due.sameText("NULL in both FIELDS is had", missing(hall), "1=0 2=1 3=1 4=-1 5=901 6=-1 7=901");
        hall.add(hall.isRecord(0, noLeft, any), -1, 0);
        Due.sameText("a RECORD at the PLACE 4", missing(hall), "1=0 2=1 3=1 4=1 5=901 6=-1 7=901 8=-1 9=901");
        hall.add(hall.isRecord(0, any, noLeft), -1, 0);
        Due.sameText("and one at the PLACE 6", missing(hall),
                "1=0 2=1 3=1 4=1 5=901 6=1 7=901 8=-1 9=901 12=-1 13=901");
        MatchwrightHall right = new MatchwrightHall();
        right.type();
        right.record(1, 1, 1);
        int open = right.any(1);
        int none = right.isNone(1);
        right.add(right.isRecord(0, open, none), -1, 0);
        right.add(right.isRecord(0, open, right.isRecord(0, open, none)), -1, 0);
        Due.sameText("a RECORD at the PLACE 7", missing(right), "1=0 2=-1 3=0 6=-1 7=0 14=-1 15=-1");
        right.add(right.isRecord(0, none, open), -1, 0);
        right.add(right.isRecord(0, right.isRecord(0, open, none), open), -1, 0);
        Due.sameText("and one at the PLACE 5", missing(right),
                "1=0 2=0 3=0 4=-1 5=0 6=-1 7=0 10=-1 11=-1 14=-1 15=-1");
    }

    private static void nothingIsMissing() {
        MatchwrightHall hall = new MatchwrightHall();
        hall.type();
        hall.record(1, 0, 0);
        int any = hall.any(0);
        int low = hall.range(-99, 49);
        int high = hall.range(50, 99);
        hall.add(hall.isRecord(0, low, any), -1, 0);
        hall.add(hall.isRecord(0, high, low), -1, 0);
        Due.sameText("one corner", missing(hall), "1=0 2=1050 3=1050");
        hall.add(hall.isRecord(0, hall.name(0, 0), high), 0, MIN);
        Due.sameText("a CASE with a GUARD does not count", missing(hall), "1=0 2=1050 3=1050");
        hall.add(hall.isRecord(0, high, hall.range(50, 98)), -1, 0);
        Due.sameText("the last corner", missing(hall), "1=0 2=1050 3=1099");
        hall.add(hall.isRecord(0, any, high), -1, 0);
        Due.sameText("nothing", missing(hall), "");
        Due.same("many(6)", hall.many(6), 0);
        while (hall.many(4) > 0) {
            hall.cut();
        }
        Due.sameText("when all are cut", missing(hall), "");
    }

    // ---- promise 28

    private static void takingWithout() {
        MatchwrightHall hall = new MatchwrightHall();
        hall.type();
        hall.number(5);
        hall.none(1);
        hall.number(6);
        Due.outOfBounds("CASE 0, if there is none", () -> hall.takesWithout(0, 0));
        int any = hall.any(0);
        hall.add(any, -1, 0);
        Due.same("without the only one", hall.takesWithout(0, 0), -1);
        Due.badArgument("another TYPE, without the only one", () -> hall.takesWithout(0, 1));
        hall.add(any, -1, 0);
        hall.add(any, -1, 0);
        Due.outOfBounds("CASE -1", () -> hall.takesWithout(-1, 0));
        Due.same("without CASE 0, the first", hall.takesWithout(0, 0), 1);
        Due.same("without CASE 2, the last", hall.takesWithout(2, 0), 0);
        Due.outOfBounds("CASE 3 of 3", () -> hall.takesWithout(3, 0));
        Due.outOfBounds("the least CASE", () -> hall.takesWithout(MIN, 0));
        Due.outOfBounds("the greatest CASE", () -> hall.takesWithout(MAX, 0));
        Due.outOfBounds("VALUE -1", () -> hall.takesWithout(0, -1));
        Due.same("VALUE 2, the last", hall.takesWithout(0, 2), 1);
        Due.outOfBounds("VALUE 3 of 3", () -> hall.takesWithout(0, 3));
        Due.outOfBounds("the least VALUE", () -> hall.takesWithout(0, MIN));
        Due.outOfBounds("the greatest VALUE", () -> hall.takesWithout(0, MAX));
        Due.badArgument("another TYPE", () -> hall.takesWithout(0, 1));
        MatchwrightHall sealed = new MatchwrightHall();
        sealed.type();
        sealed.none(1);
        sealed.add(sealed.isNone(1), -1, 0);
        Due.same("NULL without the only one", sealed.takesWithout(0, 0), -2);
        Due.same("nothing is changed", sealed.takes(0), 0);
    }

    // ---- promise 29

    private static void missingWithout() {
        MatchwrightHall hall = new MatchwrightHall();
        Due.outOfBounds("CASE 0, if there is none", () -> hall.missesWithout(0));
        int low = hall.range(-99, 49);
        int high = hall.range(50, 99);
        hall.add(low, -1, 0);
        Due.same("the only one, though something is MISSING", hall.missesWithout(0), false);
        Due.outOfBounds("CASE 1 of 1", () -> hall.missesWithout(1));
        hall.add(high, -1, 0);
        Due.same("without CASE 0, the first", hall.missesWithout(0), true);
        Due.same("without CASE 1, the last", hall.missesWithout(1), true);
        hall.add(low, -1, 0);
        Due.same("with another in its place", hall.missesWithout(0), false);
        Due.same("and the other way round", hall.missesWithout(2), false);
        Due.outOfBounds("CASE -1", () -> hall.missesWithout(-1));
        Due.outOfBounds("CASE 3 of 3", () -> hall.missesWithout(3));
        Due.outOfBounds("the least CASE", () -> hall.missesWithout(MIN));
        Due.outOfBounds("the greatest CASE", () -> hall.missesWithout(MAX));
        Due.same("nothing is changed", hall.many(6), 0);
        MatchwrightHall six = EdgesOfTreesTest.eighteenRanges(-99, 11, 0, 99);
        for (int number = 0; number < 6; number++) {
            Due.same("of 6 CASES without " + number, six.missesWithout(number), true);
        }
        six.cut();
        six.add(0, -1, 0);
        Due.same("when something is MISSING anyhow", six.missesWithout(5), true);
    }

    // ---- promise 30

    private static void smallestOfNoneAndOne() {
        MatchwrightHall hall = new MatchwrightHall();
        Due.same("without CASES", hall.nodesBySmallest(), -1);
        int any = hall.any(0);
        hall.add(any, -1, 0);
        Due.same("of one CASE", hall.nodesBySmallest(), 1);
        hall.cut();
        Due.same("when all are cut", hall.nodesBySmallest(), -1);
        for (int number = 0; number < 6; number++) {
            hall.add(hall.range(number, number), -1, 0);
        }
        Due.same("of 6 CASES", hall.nodesBySmallest(), 8);
        Due.same("nothing is COMPILED by that", hall.many(7), 0);
    }

    private static void smallestPlaces() {
        MatchwrightHall hall = new MatchwrightHall();
        hall.type();
        hall.record(1, 0, 0);
        int any = hall.any(0);
        int low = hall.range(0, 3);
        int high = hall.range(50, 99);
        hall.add(hall.isRecord(0, any, low), -1, 0);
        hall.add(hall.isRecord(0, low, high), -1, 0);
        Due.same("0 at PLACE 2 is not above 0", hall.nodesBySmallest(), hall.compile());
        hall.cut();
        hall.cut();
        hall.add(hall.isRecord(0, low, low), -1, 0);
        hall.add(hall.isRecord(0, any, high), -1, 0);
        hall.add(hall.isRecord(0, any, low), -1, 0);
        Due.same("3 at PLACE 3 is the greatest WEIGHT", hall.compile(), 9);
        Due.same("1 at PLACE 2 is above 0", hall.nodesBySmallest(), 10);
    }

    private static final String SMALLEST_300 = "L0,5,1,0 L1,0,12,17 L9,16,6,10 R13,27,17,26 R1,0,18,19 R2,7,1,0";
    private static final String SMALLEST_301 = "L16,21,8,20 L1,0,19,20 R1,0,0,9 L7,8,2,10 L0,9,5,15 R7,19,1,0";

    private static void limitOfMatrices() {
        Reference most = new Reference();
        MatchwrightHall hall = EdgesOfTreesTest.grid(SMALLEST_300, most);
        Due.same("this would need 300 MATRICES", most.matrices(true), 300);
        Due.same("with 300 it would be COMPILED", hall.nodesBySmallest(), 18);
        Due.same("by the greatest WEIGHT this needs 344", most.matrices(false), 344);
        Due.same("that is not COMPILED", hall.compile(), -1);
        Due.same("nodesBySmallest() is, all the same", hall.nodesBySmallest(), 18);
        Due.same("but nothing is COMPILED by it", hall.many(7), 0);
        Reference more = new Reference();
        MatchwrightHall other = EdgesOfTreesTest.grid(SMALLEST_301, more);
        Due.same("this would need 301 MATRICES", more.matrices(true), 301);
        Due.same("with 301 it would not be", other.nodesBySmallest(), -1);
        Due.same("by the greatest WEIGHT this needs 268", more.matrices(false), 268);
        Due.same("that is COMPILED", other.compile(), 30);
        Due.same("nodesBySmallest() would not be, all the same", other.nodesBySmallest(), -1);
        Due.same("the tree stays", other.many(7), 30);
        Due.same("and its MATRICES", other.many(8), 268);
    }

    // ---- promise 31

    private static void digestOfANewHall() {
        BigInteger d = BigInteger.valueOf(58142);
        // many(): one TYPE, then 0 ten times; missing(): -2 fifteen times; nodesBySmallest(): -1.
        int[] numbers = new int[11 + 15 + 1];
        numbers[0] = 1;
        for (int place = 1; place <= 15; place++) {
            numbers[10 + place] = -2;
        }
        numbers[26] = -1;
        for (int number : numbers) {
            d = d.multiply(BigInteger.valueOf(31)).add(BigInteger.valueOf(number));
        }
        MatchwrightHall hall = new MatchwrightHall();
        Due.same("it does not fit 64 bits", d.bitLength() > 64, true);
        Due.same("it wraps around", hall.digest(), d.longValue());
        Due.same("and changes nothing", hall.digest(), d.longValue());
    }

    private static void digestsWrapAround() {
        MatchwrightHall hall = Halls.some();
        Due.same("of some of everything", hall.digest(), digest(hall));
        hall.add(3, -1, 0);
        Due.same("of a CASE that is not REACHED", hall.digest(), digest(hall));
        hall.compile();
        Due.same("of a tree of it", hall.digest(), digest(hall));
        hall.cut();
        hall.cut();
        Due.same("of one CASE", hall.digest(), digest(hall));
        hall.cut();
        Due.same("without CASES, with a tree", hall.digest(), digest(hall));
        hall.add(0, 0, 6);
        Due.same("of CASES on NUMBER, of a tree on 1", hall.digest(), digest(hall));
        hall.compile();
        Due.same("of a tree whose root is an ASK", hall.digest(), digest(hall));
        hall.cut();
        hall.add(4, -1, 0);
        hall.compile();
        Due.same("of a tree of one NODE", hall.digest(), digest(hall));
        MatchwrightHall grid = EdgesOfTreesTest.grid(SMALLEST_301, new Reference());
        Due.same("without a tree", grid.digest(), digest(grid));
        grid.compile();
        Due.same("with a tree, but -1 by the smallest", grid.digest(), digest(grid));
    }

    private static void digestOfAFullHall() {
        MatchwrightHall hall = Halls.full();
        Due.same("of a full hall", hall.digest(), digest(hall));
    }

    /** The digest by whole numbers without an end, of which the last 64 bits are taken. */
    private static long digest(MatchwrightHall hall) {
        BigInteger[] d = {BigInteger.valueOf(58142)};
        for (int what = 0; what <= 10; what++) {
            put(d, hall.many(what));
        }
        boolean cases = hall.many(4) > 0;
        for (int value = 0; value < hall.many(2); value++) {
            int asked = value;
            if (cases && !Due.told(() -> hall.takes(asked)).startsWith("I")) {
                put(d, hall.takes(value));
                put(d, hall.looks(value));
                for (int name = 0; name <= 3; name++) {
                    put(d, hall.bound(value, name));
                }
            }
        }
        for (int value = 0; value < hall.many(2); value++) {
            int asked = value;
            if (!Due.told(() -> hall.down(asked)).startsWith("I")) {
                put(d, hall.down(value));
                put(d, hall.tests(value));
            }
        }
        for (int node = 0; node < hall.many(7); node++) {
            for (int what = 0; what <= 3; what++) {
                put(d, hall.ofNode(node, what));
            }
            for (int branch = 0; branch < hall.ofNode(node, 2); branch++) {
                put(d, hall.branch(node, branch, 0));
                put(d, hall.branch(node, branch, 1));
            }
        }
        for (int number = 0; number < hall.many(4); number++) {
            put(d, hall.isReached(number) ? 1 : 0);
            put(d, hall.missesWithout(number) ? 1 : 0);
        }
        for (int place = 1; place <= 15; place++) {
            put(d, hall.missing(place));
        }
        put(d, hall.nodesBySmallest());
        return d[0].longValue();
    }

    private static void put(BigInteger[] d, int number) {
        d[0] = d[0].multiply(BigInteger.valueOf(31)).add(BigInteger.valueOf(number));
    }

    // ---- of several exceptions the one that is named first

    private static void severalExceptions() {
        MatchwrightHall hall = Halls.full();
        Due.outOfBounds("takesWithout(): no CASE, another TYPE", () -> hall.takesWithout(6, 0));
        Due.outOfBounds("takesWithout(): no CASE, no VALUE", () -> hall.takesWithout(-1, 40));
        Due.outOfBounds("takesWithout(): no VALUE", () -> hall.takesWithout(5, 40));
        Due.badArgument("takesWithout(): another TYPE alone", () -> hall.takesWithout(5, 0));
    }

    /** The 512th call is the last that is promised. */
    private static void fiveHundredAndTwelveCalls() {
        MatchwrightHall hall = new MatchwrightHall();
        int any = hall.any(0);
        int number = hall.number(7);
        for (int call = 3; call <= 507; call += 5) {
            hall.add(any, -1, 0);
            hall.compile();
            hall.digest();
            hall.nodesBySmallest();
            hall.cut();
        }
        Due.same("the call 508", hall.add(any, -1, 0), 0);
        Due.same("the call 509", hall.compile(), 1);
        Due.same("the call 510", hall.down(number), 0);
        Due.same("the call 511", hall.many(8), 1);
        Due.same("the call 512", hall.takes(number), 0);
    }
}
