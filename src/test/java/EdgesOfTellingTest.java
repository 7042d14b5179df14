/** Promises 1 to 6 at their edges: the last that is allowed, and the first that is not. */
public final class EdgesOfTellingTest {
    private static final int MIN = Integer.MIN_VALUE;
    private static final int MAX = Integer.MAX_VALUE;

    public static void main(String[] args) {
        emptyHall();
        emptyHallRefuses();
        fiveTypes();
        typesOfRecords();
        fieldTypes();
        typesToldLater();
        twelveRecords();
        numbers();
        typesOfNulls();
        recordsOfValues();
        firstFields();
        secondFields();
        fieldsThatAreNot();
        fortyValues();
        severalExceptions();
        Due.end();
    }

    // ---- promise 1

    private static void emptyHall() {
        MatchwrightHall hall = new MatchwrightHall();
        Due.same("the TYPE NUMBER alone", hall.many(0), 1);
        for (int what = 1; what <= 10; what++) {
            Due.same("new many(" + what + ")", hall.many(what), 0);
        }
        Due.same("meanTests() without any", hall.meanTests(), 0.0);
        Due.same("missing(1) without CASES", hall.missing(1), -2);
        Due.same("missing(63) without CASES", hall.missing(63), -2);
        Due.same("nodesBySmallest() without CASES", hall.nodesBySmallest(), -1);
        Due.same("NUMBER is there: number()", hall.number(0), 0);
        Due.same("NUMBER is there: any()", hall.any(0), 0);
    }

    private static void emptyHallRefuses() {
        MatchwrightHall hall = new MatchwrightHall();
        Due.outOfBounds("record() without a TYPE", () -> hall.record(1, -1, -1));
        Due.outOfBounds("none() without a TYPE", () -> hall.none(1));
        Due.outOfBounds("make() without RECORDS", () -> hall.make(0, 0, 0));
        Due.outOfBounds("any() without a TYPE", () -> hall.any(1));
        Due.outOfBounds("name() without a TYPE", () -> hall.name(1, 0));
        Due.outOfBounds("isNone() without a TYPE", () -> hall.isNone(1));
        Due.outOfBounds("isRecord() without RECORDS", () -> hall.isRecord(0, 0, 0));
        Due.outOfBounds("either() without PATTERNS", () -> hall.either(0, 0));
        Due.outOfBounds("add() without PATTERNS", () -> hall.add(0, -1, 0));
        Due.badState("cut() without CASES", hall::cut);
        Due.outOfBounds("matches() without any", () -> hall.matches(0, 0));
        Due.outOfBounds("takes() without VALUES", () -> hall.takes(0));
        Due.outOfBounds("looks() without VALUES", () -> hall.looks(0));
        Due.outOfBounds("bound() without VALUES", () -> hall.bound(0, 0));
        Due.badState("compile() without CASES", hall::compile);
        Due.outOfBounds("ofNode() without NODES", () -> hall.ofNode(0, 0));
        Due.outOfBounds("branch() without NODES", () -> hall.branch(0, 0, 0));
        Due.outOfBounds("down() without VALUES", () -> hall.down(0));
        Due.outOfBounds("tests() without VALUES", () -> hall.tests(0));
        Due.outOfBounds("isReached() without CASES", () -> hall.isReached(0));
        Due.outOfBounds("takesWithout() without CASES", () -> hall.takesWithout(0, 0));
        Due.outOfBounds("missesWithout() without CASES", () -> hall.missesWithout(0));
        Due.sameText("all that changed nothing", Halls.told(hall), Halls.told(new MatchwrightHall()));
    }

    // ---- promise 2

    private static void fiveTypes() {
        MatchwrightHall hall = new MatchwrightHall();
        Due.same("the first SEALED TYPE", hall.type(), 1);
        hall.type();
        hall.type();
        Due.same("with 4 TYPES", hall.type(), 4);
        Due.badState("with 5 TYPES", hall::type);
        Due.badState("and again", hall::type);
        Due.same("there are 5", hall.many(0), 5);
        Due.same("the last TYPE", hall.any(4), 0);
        Due.outOfBounds("none behind it", () -> hall.any(5));
    }

    // ---- promise 3

    private static void typesOfRecords() {
        MatchwrightHall hall = new MatchwrightHall();
        hall.type();
        hall.type();
        Due.outOfBounds("TYPE -1", () -> hall.record(-1, -1, -1));
        Due.badArgument("TYPE 0, NUMBER", () -> hall.record(0, -1, -1));
        Due.same("TYPE 1, the first SEALED one", hall.record(1, -1, -1), 0);
        Due.same("TYPE 2, the last", hall.record(2, -1, -1), 1);
        Due.outOfBounds("TYPE 3 of 3", () -> hall.record(3, -1, -1));
        Due.outOfBounds("the least TYPE", () -> hall.record(MIN, -1, -1));
        Due.outOfBounds("the greatest TYPE", () -> hall.record(MAX, -1, -1));
        Due.same("two are told", hall.many(1), 2);
    }

    private static void fieldTypes() {
        MatchwrightHall hall = new MatchwrightHall();
        hall.type();
        hall.type();
        Due.badArgument("first -2", () -> hall.record(1, -2, -1));
        Due.same("first NONE", hall.record(1, -1, -1), 0);
        Due.same("first NUMBER", hall.record(1, 0, -1), 1);
        Due.same("first the last TYPE", hall.record(1, 2, -1), 2);
        Due.badArgument("first 3 of 3", () -> hall.record(1, 3, -1));
        Due.badArgument("second -2", () -> hall.record(1, 0, -2));
        Due.same("second NUMBER", hall.record(1, 0, 0), 3);
        Due.same("second the last TYPE", hall.record(1, 0, 2), 4);
        Due.badArgument("second 3 of 3", () -> hall.record(1, 0, 3));
        Due.badArgument("second NUMBER without a first", () -> hall.record(1, -1, 0));
        Due.badArgument("second the last TYPE without a first", () -> hall.record(1, -1, 2));
        Due.badArgument("the least first", () -> hall.record(1, MIN, -1));
        Due.badArgument("the greatest first", () -> hall.record(1, MAX, -1));
        Due.badArgument("the least second", () -> hall.record(1, 0, MIN));
        Due.badArgument("the greatest second", () -> hall.record(1, 0, MAX));
        Due.same("five are told", hall.many(1), 5);
        hall.number(9);
        hall.none(2);
        Due.same("no FIELD is no FIELD", hall.make(0, 0, 0), 2);
        Due.same("its FIELD 0 is on NUMBER", hall.make(1, 0, 0), 3);
        Due.same("its FIELD 0 is on the last TYPE", hall.make(2, 1, 0), 4);
        Due.same("its FIELD 1 is on NUMBER", hall.make(3, 0, 0), 5);
        Due.same("its FIELD 1 is on the last TYPE", hall.make(4, 0, 1), 6);
    }

    private static void typesToldLater() {
        MatchwrightHall hall = new MatchwrightHall();
        hall.type();
        Due.badArgument("a FIELD on a TYPE that is told later", () -> hall.record(1, 2, -1));
        Due.outOfBounds("of a TYPE that is told later", () -> hall.record(2, -1, -1));
        hall.type();
        Due.same("a FIELD on it, when it is told", hall.record(1, 2, -1), 0);
        Due.same("of it, when it is told", hall.record(2, 2, 2), 1);
    }

    private static void twelveRecords() {
        MatchwrightHall hall = new MatchwrightHall();
        hall.type();
        for (int record = 0; record < 11; record++) {
            hall.record(1, -1, -1);
        }
        Due.same("with 11 there", hall.record(1, 0, -1), 11);
        Due.badState("with 12 there", () -> hall.record(1, 0, -1));
        Due.badState("without FIELDS too", () -> hall.record(1, -1, -1));
        Due.same("there are 12", hall.many(1), 12);
        hall.number(3);
        Due.same("the RECORD 11 can be made", hall.make(11, 0, 0), 1);
        Due.outOfBounds("the RECORD 12 can not", () -> hall.make(12, 0, 0));
        Due.same("a PATTERN on the RECORD 11", hall.isRecord(11, hall.range(3, 3), 0), 1);
        Due.same("matches it", hall.matches(1, 1), true);
        Due.outOfBounds("none on the RECORD 12", () -> hall.isRecord(12, 0, 0));
    }

    // ---- promise 4

    private static void numbers() {
        MatchwrightHall hall = new MatchwrightHall();
        Due.badArgument("number(-100)", () -> hall.number(-100));
        Due.same("number(-99)", hall.number(-99), 0);
        Due.same("number(99)", hall.number(99), 1);
        Due.badArgument("number(100)", () -> hall.number(100));
        Due.badArgument("the least int", () -> hall.number(MIN));
        Due.badArgument("the greatest int", () -> hall.number(MAX));
        Due.same("number(-1)", hall.number(-1), 2);
        Due.same("number(0)", hall.number(0), 3);
        Due.same("number(1)", hall.number(1), 4);
        int[] numbers = {-99, 99, -1, 0, 1};
        for (int value = 0; value < numbers.length; value++) {
            int number = numbers[value];
            int range = hall.range(number, number);
            for (int other = 0; other < numbers.length; other++) {
                Due.same("VALUE " + other + " is " + number, hall.matches(range, other), value == other);
            }
        }
        Due.same("five are made", hall.many(2), 5);
    }

    // ---- promise 5

    private static void typesOfNulls() {
        MatchwrightHall hall = new MatchwrightHall();
        hall.type();
        hall.type();
        Due.outOfBounds("none(-1)", () -> hall.none(-1));
        Due.badArgument("none(0), of NUMBER", () -> hall.none(0));
        Due.same("none(1)", hall.none(1), 0);
        Due.same("none(2), of the last TYPE", hall.none(2), 1);
        Due.outOfBounds("none(3) of 3", () -> hall.none(3));
        Due.outOfBounds("none(MIN)", () -> hall.none(MIN));
        Due.outOfBounds("none(MAX)", () -> hall.none(MAX));
        Due.same("two are made", hall.many(2), 2);
        int one = hall.isNone(1);
        int two = hall.isNone(2);
        Due.same("the first is of 1", hall.matches(one, 0), true);
        Due.badArgument("the first is not of 2", () -> hall.matches(two, 0));
        Due.same("the second is of 2", hall.matches(two, 1), true);
        Due.badArgument("the second is not of 1", () -> hall.matches(one, 1));
    }

    // ---- promise 6

    private static void recordsOfValues() {
        MatchwrightHall hall = new MatchwrightHall();
        hall.type();
        hall.record(1, -1, -1);
        hall.record(1, -1, -1);
        Due.outOfBounds("RECORD -1", () -> hall.make(-1, 0, 0));
        Due.same("RECORD 0, though there is no VALUE 0", hall.make(0, 0, 0), 0);
        Due.same("RECORD 1, the last", hall.make(1, 0, 0), 1);
        Due.outOfBounds("RECORD 2 of 2", () -> hall.make(2, 0, 0));
        Due.outOfBounds("the least RECORD", () -> hall.make(MIN, 0, 0));
        Due.outOfBounds("the greatest RECORD", () -> hall.make(MAX, 0, 0));
        Due.same("two are made", hall.many(2), 2);
    }

    private static void firstFields() {
        MatchwrightHall hall = new MatchwrightHall();
        hall.type();
        hall.record(1, 0, -1);
        Due.outOfBounds("VALUE 0, if there is none", () -> hall.make(0, 0, 0));
        hall.number(5);
        hall.none(1);
        hall.number(6);
        Due.outOfBounds("VALUE -1", () -> hall.make(0, -1, 0));
        Due.same("VALUE 0", hall.make(0, 0, 0), 3);
        Due.badArgument("VALUE 1, of another TYPE", () -> hall.make(0, 1, 0));
        Due.same("VALUE 2", hall.make(0, 2, 0), 4);
        Due.outOfBounds("VALUE 5 of 5", () -> hall.make(0, 5, 0));
        Due.outOfBounds("the least VALUE", () -> hall.make(0, MIN, 0));
        Due.outOfBounds("the greatest VALUE", () -> hall.make(0, MAX, 0));
        hall.record(1, 1, -1);
        Due.same("the last VALUE", hall.make(1, 4, 0), 5);
        int inner = hall.isRecord(0, hall.range(6, 6), 0);
        int outer = hall.isRecord(1, inner, 0);
        Due.same("it has that FIELD", hall.matches(outer, 5), true);
    }

    private static void secondFields() {
        MatchwrightHall hall = new MatchwrightHall();
        hall.type();
        hall.record(1, 0, 0);
        hall.record(1, 0, 1);
        hall.number(5);
        hall.none(1);
        hall.number(6);
        Due.outOfBounds("VALUE -1", () -> hall.make(0, 0, -1));
        Due.same("VALUE 0", hall.make(0, 2, 0), 3);
        Due.badArgument("VALUE 1, of another TYPE", () -> hall.make(0, 0, 1));
        Due.outOfBounds("VALUE 4 of 4", () -> hall.make(0, 0, 4));
        Due.outOfBounds("the least VALUE", () -> hall.make(0, 0, MIN));
        Due.outOfBounds("the greatest VALUE", () -> hall.make(0, 0, MAX));
        Due.badArgument("VALUE 0, of another TYPE", () -> hall.make(1, 0, 0));
        Due.same("the last VALUE", hall.make(1, 0, 3), 4);
        int five = hall.range(5, 5);
        int six = hall.range(6, 6);
        Due.same("its FIELDS in their order", hall.matches(hall.isRecord(0, six, five), 3), true);
        Due.same("not the other way round", hall.matches(hall.isRecord(0, five, six), 3), false);
    }

    private static void fieldsThatAreNot() {
        MatchwrightHall hall = new MatchwrightHall();
        hall.type();
        hall.record(1, -1, -1);
        hall.record(1, 0, -1);
        hall.number(5);
        hall.number(6);
        Due.badArgument("first 1 without one", () -> hall.make(0, 1, 0));
        Due.badArgument("first -1 without one", () -> hall.make(0, -1, 0));
        Due.badArgument("first of no VALUE without one", () -> hall.make(0, MAX, 0));
        Due.badArgument("second 1 without any", () -> hall.make(0, 0, 1));
        Due.badArgument("second -1 without any", () -> hall.make(0, 0, -1));
        Due.badArgument("second 1 without one", () -> hall.make(1, 0, 1));
        Due.badArgument("second -1 without one", () -> hall.make(1, 0, -1));
        Due.badArgument("second of no VALUE without one", () -> hall.make(1, 0, MIN));
        Due.same("0 without any", hall.make(0, 0, 0), 2);
        Due.same("second 0 without one", hall.make(1, 1, 0), 3);
    }

    // ---- promises 4 to 6, when there are 40

    private static MatchwrightHall with39() {
        MatchwrightHall hall = new MatchwrightHall();
        hall.type();
        hall.record(1, 0, -1);
        for (int value = 0; value < 39; value++) {
            hall.number(value);
        }
        return hall;
    }

    private static void fortyValues() {
        MatchwrightHall byNumber = with39();
        MatchwrightHall byNone = with39();
        MatchwrightHall byMake = with39();
        Due.same("number() with 39 there", byNumber.number(1), 39);
        Due.same("none() with 39 there", byNone.none(1), 39);
        Due.same("make() with 39 there", byMake.make(0, 38, 0), 39);
        for (MatchwrightHall hall : new MatchwrightHall[] {byNumber, byNone, byMake}) {
            Due.badState("number() with 40 there", () -> hall.number(1));
            Due.badState("none() with 40 there", () -> hall.none(1));
            Due.badState("make() with 40 there", () -> hall.make(0, 38, 0));
            Due.same("there are 40", hall.many(2), 40);
        }
        Due.same("the VALUE 39 is told of", byNone.takes(39), -2);
        Due.outOfBounds("there is no VALUE 40", () -> byNone.takes(40));
        int last = byMake.isRecord(0, byMake.range(38, 38), 0);
        Due.same("the VALUE 39 has the VALUE 38", byMake.matches(last, 39), true);
    }

    // ---- of several exceptions the one that is named first

    private static void severalExceptions() {
        MatchwrightHall hall = Halls.full();
        Due.outOfBounds("record(): no TYPE, no FIELD, 12 RECORDS", () -> hall.record(5, 9, 9));
        Due.outOfBounds("record(): no TYPE, 12 RECORDS", () -> hall.record(-1, -1, -1));
        Due.badArgument("record(): NUMBER, 12 RECORDS", () -> hall.record(0, -1, -1));
        Due.badArgument("record(): no FIELD, 12 RECORDS", () -> hall.record(1, 5, -1));
        Due.badArgument("record(): a second alone, 12 RECORDS", () -> hall.record(1, -1, 0));
        Due.badArgument("number(): too small, 40 VALUES", () -> hall.number(-100));
        Due.badArgument("number(): too large, 40 VALUES", () -> hall.number(100));
        Due.outOfBounds("none(): no TYPE, 40 VALUES", () -> hall.none(5));
        Due.badArgument("none(): NUMBER, 40 VALUES", () -> hall.none(0));
        Due.outOfBounds("make(): no RECORD, 40 VALUES", () -> hall.make(12, 0, 0));
        Due.outOfBounds("make(): no first, a bad second, 40 VALUES", () -> hall.make(0, 40, 0));
        Due.outOfBounds("make(): a bad first, no second, 40 VALUES", () -> hall.make(0, 1, 40));
        Due.outOfBounds("make(): no first, a second too much", () -> hall.make(2, 40, 1));
        Due.badArgument("make(): a bad first, 40 VALUES", () -> hall.make(0, 1, 1));
        Due.badArgument("make(): a bad second, 40 VALUES", () -> hall.make(0, 0, 0));
        Due.badArgument("make(): a FIELD too much, 40 VALUES", () -> hall.make(1, 1, 0));
        Due.badState("make(): 40 VALUES alone", () -> hall.make(1, 0, 0));
    }
}
