/** Promises 7 to 12 at their edges: the last that is allowed, and the first that is not. */
public final class EdgesOfPatternsTest {
    private static final int MIN = Integer.MIN_VALUE;
    private static final int MAX = Integer.MAX_VALUE;

    public static void main(String[] args) {
        typesOfAny();
        typesOfNames();
        names();
        lowEnds();
        highEnds();
        bothEndsMatch();
        typesOfNulls();
        recordsOfPatterns();
        firstFields();
        secondFields();
        fieldsThatAreNot();
        namesTwiceInARecord();
        threeDeep();
        threeDeepByEither();
        sixPartsOfARecord();
        sidesOfEithers();
        typesOfSides();
        namesOfSides();
        sixPartsOfAnEither();
        patternsUsedAgain();
        fortyPatterns();
        severalExceptions();
        Due.end();
    }

    // ---- promise 7

    private static void typesOfAny() {
        MatchwrightHall hall = new MatchwrightHall();
        hall.type();
        hall.type();
        Due.outOfBounds("any(-1)", () -> hall.any(-1));
        Due.same("any(0), on NUMBER", hall.any(0), 0);
        Due.same("any(2), on the last TYPE", hall.any(2), 1);
        Due.outOfBounds("any(3) of 3", () -> hall.any(3));
        Due.outOfBounds("any(MIN)", () -> hall.any(MIN));
        Due.outOfBounds("any(MAX)", () -> hall.any(MAX));
        hall.number(-99);
        hall.number(99);
        hall.none(2);
        hall.record(2, -1, -1);
        hall.make(0, 0, 0);
        Due.same("ANY has the least NUMBER", hall.matches(0, 0), true);
        Due.same("ANY has the greatest NUMBER", hall.matches(0, 1), true);
        Due.same("ANY has no NULL at the TOP", hall.matches(1, 2), false);
        Due.same("ANY has a RECORD", hall.matches(1, 3), true);
    }

    // ---- promise 8

    private static void typesOfNames() {
        MatchwrightHall hall = new MatchwrightHall();
        hall.type();
        hall.type();
        Due.outOfBounds("name(-1, 0)", () -> hall.name(-1, 0));
        Due.same("name(0, 0), on NUMBER", hall.name(0, 0), 0);
        Due.same("name(2, 0), on the last TYPE", hall.name(2, 0), 1);
        Due.outOfBounds("name(3, 0) of 3", () -> hall.name(3, 0));
        Due.outOfBounds("name(MIN, 0)", () -> hall.name(MIN, 0));
        Due.outOfBounds("name(MAX, 0)", () -> hall.name(MAX, 0));
        Due.same("two are made", hall.many(3), 2);
    }

    private static void names() {
        MatchwrightHall hall = new MatchwrightHall();
        Due.badArgument("NAME -1", () -> hall.name(0, -1));
        for (int name = 0; name <= 3; name++) {
            Due.same("NAME " + name, hall.name(0, name), name);
        }
        Due.badArgument("NAME 4", () -> hall.name(0, 4));
        Due.badArgument("the least NAME", () -> hall.name(0, MIN));
        Due.badArgument("the greatest NAME", () -> hall.name(0, MAX));
        hall.number(-99);
        for (int name = 0; name <= 3; name++) {
            Due.same("NAME " + name + " matches", hall.matches(name, 0), true);
            hall.add(name, name, -100);
            Due.same("NAME " + name + " is BOUND", hall.bound(0, name), 0);
            hall.cut();
        }
    }

    // ---- promise 9

    private static void lowEnds() {
        MatchwrightHall hall = new MatchwrightHall();
        Due.badArgument("low -100", () -> hall.range(-100, 0));
        Due.badArgument("low and high -100", () -> hall.range(-100, -100));
        Due.same("low -99", hall.range(-99, 0), 0);
        Due.same("low 99", hall.range(99, 99), 1);
        Due.badArgument("low 100, high 99", () -> hall.range(100, 99));
        Due.badArgument("low and high 100", () -> hall.range(100, 100));
        Due.badArgument("the least low", () -> hall.range(MIN, 0));
        Due.badArgument("the greatest low", () -> hall.range(MAX, MAX));
        Due.same("two are made", hall.many(3), 2);
    }

    private static void highEnds() {
        MatchwrightHall hall = new MatchwrightHall();
        Due.badArgument("high low - 1", () -> hall.range(7, 6));
        Due.same("high low", hall.range(7, 7), 0);
        Due.same("high low + 1", hall.range(7, 8), 1);
        Due.same("high 99", hall.range(7, 99), 2);
        Due.badArgument("high 100", () -> hall.range(7, 100));
        Due.badArgument("high -100", () -> hall.range(-99, -100));
        Due.same("high -99", hall.range(-99, -99), 3);
        Due.same("all", hall.range(-99, 99), 4);
        Due.badArgument("the least high", () -> hall.range(7, MIN));
        Due.badArgument("the greatest high", () -> hall.range(7, MAX));
        Due.same("five are made", hall.many(3), 5);
    }

    private static void bothEndsMatch() {
        MatchwrightHall hall = new MatchwrightHall();
        int[] numbers = {-99, -98, -4, -3, -2, 4, 5, 6, 98, 99};
        for (int number : numbers) {
            hall.number(number);
        }
        int inner = hall.range(-3, 5);
        int one = hall.range(-3, -3);
        int least = hall.range(-99, -99);
        int greatest = hall.range(99, 99);
        int all = hall.range(-99, 99);
        for (int value = 0; value < numbers.length; value++) {
            int n = numbers[value];
            Due.same("-3 to 5 has " + n, hall.matches(inner, value), n >= -3 && n <= 5);
            Due.same("-3 has " + n, hall.matches(one, value), n == -3);
            Due.same("-99 has " + n, hall.matches(least, value), n == -99);
            Due.same("99 has " + n, hall.matches(greatest, value), n == 99);
            Due.same("all has " + n, hall.matches(all, value), true);
        }
    }

    // ---- promise 10

    private static void typesOfNulls() {
        MatchwrightHall hall = new MatchwrightHall();
        hall.type();
        hall.type();
        Due.outOfBounds("isNone(-1)", () -> hall.isNone(-1));
        Due.badArgument("isNone(0), on NUMBER", () -> hall.isNone(0));
        Due.same("isNone(1)", hall.isNone(1), 0);
        Due.same("isNone(2), on the last TYPE", hall.isNone(2), 1);
        Due.outOfBounds("isNone(3) of 3", () -> hall.isNone(3));
        Due.outOfBounds("isNone(MIN)", () -> hall.isNone(MIN));
        Due.outOfBounds("isNone(MAX)", () -> hall.isNone(MAX));
        Due.same("two are made", hall.many(3), 2);
    }

    // ---- promise 11

    private static void recordsOfPatterns() {
        MatchwrightHall hall = new MatchwrightHall();
        hall.type();
        hall.record(1, -1, -1);
        hall.record(1, -1, -1);
        Due.outOfBounds("RECORD -1", () -> hall.isRecord(-1, 0, 0));
        Due.same("RECORD 0, though there is no PATTERN 0", hall.isRecord(0, 0, 0), 0);
        Due.same("RECORD 1, the last", hall.isRecord(1, 0, 0), 1);
        Due.outOfBounds("RECORD 2 of 2", () -> hall.isRecord(2, 0, 0));
        Due.outOfBounds("the least RECORD", () -> hall.isRecord(MIN, 0, 0));
        Due.outOfBounds("the greatest RECORD", () -> hall.isRecord(MAX, 0, 0));
        Due.same("two are made", hall.many(3), 2);
    }

    private static void firstFields() {
        MatchwrightHall hall = new MatchwrightHall();
        hall.type();
        hall.record(1, 0, -1);
        hall.record(1, 1, -1);
        Due.outOfBounds("PATTERN 0, if there is none", () -> hall.isRecord(0, 0, 0));
        hall.any(0);
        hall.any(1);
        hall.range(6, 6);
        Due.outOfBounds("PATTERN -1", () -> hall.isRecord(0, -1, 0));
        Due.same("PATTERN 0", hall.isRecord(0, 0, 0), 3);
        Due.badArgument("PATTERN 1, on another TYPE", () -> hall.isRecord(0, 1, 0));
        Due.same("PATTERN 2", hall.isRecord(0, 2, 0), 4);
        Due.outOfBounds("PATTERN 5 of 5", () -> hall.isRecord(0, 5, 0));
        Due.same("the last PATTERN", hall.isRecord(1, 4, 0), 5);
        Due.badArgument("PATTERN 0, on NUMBER", () -> hall.isRecord(1, 0, 0));
        Due.outOfBounds("the least PATTERN", () -> hall.isRecord(0, MIN, 0));
        Due.outOfBounds("the greatest PATTERN", () -> hall.isRecord(0, MAX, 0));
    }

    private static void secondFields() {
        MatchwrightHall hall = new MatchwrightHall();
        hall.type();
        hall.record(1, 0, 0);
        hall.record(1, 0, 1);
        hall.range(5, 5);
        hall.any(1);
        hall.range(6, 6);
        hall.number(5);
        hall.number(6);
        hall.make(0, 1, 0);
        Due.outOfBounds("PATTERN -1", () -> hall.isRecord(0, 0, -1));
        Due.same("PATTERN 0", hall.isRecord(0, 2, 0), 3);
        Due.same("its FIELDS in their order", hall.matches(3, 2), true);
        Due.badArgument("PATTERN 1, on another TYPE", () -> hall.isRecord(0, 0, 1));
        Due.outOfBounds("PATTERN 4 of 4", () -> hall.isRecord(1, 0, 4));
        Due.same("the last PATTERN", hall.isRecord(1, 0, 3), 4);
        Due.outOfBounds("the least PATTERN", () -> hall.isRecord(0, 0, MIN));
        Due.outOfBounds("the greatest PATTERN", () -> hall.isRecord(0, 0, MAX));
    }

    private static void fieldsThatAreNot() {
        MatchwrightHall hall = new MatchwrightHall();
        hall.type();
        hall.record(1, -1, -1);
        hall.record(1, 0, -1);
        hall.any(0);
        hall.any(0);
        Due.badArgument("first 1 without one", () -> hall.isRecord(0, 1, 0));
        Due.badArgument("first -1 without one", () -> hall.isRecord(0, -1, 0));
        Due.badArgument("first of no PATTERN without one", () -> hall.isRecord(0, MAX, 0));
        Due.badArgument("second 1 without any", () -> hall.isRecord(0, 0, 1));
        Due.badArgument("second -1 without any", () -> hall.isRecord(0, 0, -1));
        Due.badArgument("second 1 without one", () -> hall.isRecord(1, 0, 1));
        Due.badArgument("second -1 without one", () -> hall.isRecord(1, 0, -1));
        Due.badArgument("second of no PATTERN without one", () -> hall.isRecord(1, 0, MIN));
        Due.same("0 without any", hall.isRecord(0, 0, 0), 2);
        Due.same("second 0 without one", hall.isRecord(1, 1, 0), 3);
    }

    private static void namesTwiceInARecord() {
        for (int name = 0; name <= 3; name++) {
            MatchwrightHall hall = new MatchwrightHall();
            hall.type();
            hall.record(1, 0, 0);
            hall.record(1, 1, 0);
            hall.record(1, 0, 1);
            int once = hall.name(0, name);
            int again = hall.name(0, name);
            int other = hall.name(0, (name + 1) % 4);
            int onOne = hall.name(1, name);
            int any = hall.any(0);
            String told = "NAME " + name;
            int left = hall.isRecord(0, once, any);
            int right = hall.isRecord(0, any, once);
            Due.badArgument(told + " in both FIELDS", () -> hall.isRecord(0, once, again));
            Due.badArgument(told + " by one PATTERN in both", () -> hall.isRecord(0, once, once));
            Due.badArgument(told + " in a FIELD's FIELD 0, and beside it", () -> hall.isRecord(1, left, again));
            Due.badArgument(told + " in a FIELD's FIELD 1, and beside it", () -> hall.isRecord(1, right, again));
            Due.badArgument(told + " beside it, ahead", () -> hall.isRecord(2, again, right));
            Due.badArgument(told + " on two TYPES", () -> hall.isRecord(1, onOne, once));
            Due.same(told + " once, with another", hall.isRecord(0, once, other), 7);
            Due.same(told + " once, deeper, with another", hall.isRecord(1, left, other), 8);
            int both = hall.either(once, again);
            Due.same(told + " in both sides of an EITHER", hall.isRecord(0, both, other), 10);
            Due.badArgument(told + " in an EITHER, and beside it", () -> hall.isRecord(0, both, once));
            Due.badArgument(told + " beside an EITHER with it", () -> hall.isRecord(0, once, both));
        }
    }

    private static void threeDeep() {
        MatchwrightHall hall = new MatchwrightHall();
        hall.type();
        hall.record(1, 1, -1);
        hall.record(1, 0, 1);
        hall.record(1, -1, -1);
        int number = hall.any(0);
        int any = hall.any(1);
        int bare = hall.isRecord(2, 0, 0);
        int two = hall.isRecord(0, any, 0);
        int three = hall.isRecord(0, two, 0);
        Due.same("ANY is 1 DEEP: 3 by two RECORDS", three, 4);
        Due.same("a RECORD without FIELDS is 1 DEEP", hall.isRecord(0, hall.isRecord(0, bare, 0), 0), 6);
        Due.same("NULL is 1 DEEP", hall.isRecord(0, hall.isRecord(0, hall.isNone(1), 0), 0), 9);
        Due.same("a NAME is 1 DEEP", hall.isRecord(0, hall.isRecord(0, hall.name(1, 0), 0), 0), 12);
        Due.same("a RANGE is 1 DEEP", hall.isRecord(0, hall.isRecord(1, hall.range(0, 0), any), 0), 15);
        Due.same("3 DEEP by the FIELD 1", hall.isRecord(1, number, two), 16);
        Due.badArgument("4 DEEP by the FIELD 0", () -> hall.isRecord(0, three, 0));
        Due.badArgument("4 DEEP by the FIELD 1", () -> hall.isRecord(1, number, three));
        Due.badArgument("4 DEEP by the last PATTERN", () -> hall.isRecord(0, 16, 0));
    }

    private static void threeDeepByEither() {
        MatchwrightHall hall = new MatchwrightHall();
        hall.type();
        hall.record(1, 1, -1);
        int any = hall.any(1);
        int two = hall.isRecord(0, any, 0);
        int three = hall.isRecord(0, two, 0);
        int firstTwo = hall.either(two, any);
        int secondTwo = hall.either(any, two);
        int flat = hall.either(any, any);
        Due.same("EITHER of 1 DEEP is 1 DEEP", hall.isRecord(0, hall.isRecord(0, flat, 0), 0), 7);
        Due.same("EITHER with its first side 2 DEEP", hall.isRecord(0, firstTwo, 0), 8);
        Due.same("EITHER with its second side 2 DEEP", hall.isRecord(0, secondTwo, 0), 9);
        Due.badArgument("4 DEEP by the first side", () -> hall.isRecord(0, 8, 0));
        Due.badArgument("4 DEEP by the second side", () -> hall.isRecord(0, 9, 0));
        int firstThree = hall.either(three, any);
        int secondThree = hall.either(any, three);
        Due.same("EITHER with a side 3 DEEP", secondThree, 11);
        Due.badArgument("4 DEEP by a first side that is 3 DEEP", () -> hall.isRecord(0, firstThree, 0));
        Due.badArgument("4 DEEP by a second side that is 3 DEEP", () -> hall.isRecord(0, secondThree, 0));
    }

    private static void sixPartsOfARecord() {
        MatchwrightHall hall = new MatchwrightHall();
        hall.type();
        hall.record(1, 1, 1);
        hall.record(1, 1, -1);
        int one = hall.any(1);
        int two = hall.isRecord(1, one, 0);
        int three = hall.isRecord(0, one, one);
        int four = hall.either(two, one);
        int five = hall.either(two, two);
        int eitherFive = hall.either(one, hall.either(one, one));
        Due.same("1 and 5", hall.isRecord(1, five, 0), 7);
        Due.same("1, 4 and 1", hall.isRecord(0, four, one), 8);
        Due.same("1, 1 and 4", hall.isRecord(0, one, four), 9);
        Due.same("1, 3 and 2", hall.isRecord(0, three, two), 10);
        Due.same("1, 2 and 3", hall.isRecord(0, two, three), 11);
        Due.same("1 and an EITHER of 5", hall.isRecord(1, eitherFive, 0), 12);
        Due.badArgument("1, 5 and 1", () -> hall.isRecord(0, five, one));
        Due.badArgument("1, 1 and 5", () -> hall.isRecord(0, one, five));
        Due.badArgument("1, 3 and 3, of one PATTERN each time", () -> hall.isRecord(0, three, three));
        Due.badArgument("1, 4 and 2", () -> hall.isRecord(0, four, two));
        int six = hall.either(three, two);
        Due.badArgument("1 and 6", () -> hall.isRecord(1, six, 0));
    }

    // ---- promise 12

    private static void sidesOfEithers() {
        MatchwrightHall hall = new MatchwrightHall();
        Due.outOfBounds("without PATTERNS", () -> hall.either(0, 0));
        hall.range(1, 1);
        hall.range(2, 2);
        hall.range(3, 3);
        Due.outOfBounds("one -1", () -> hall.either(-1, 0));
        Due.outOfBounds("one 3 of 3", () -> hall.either(3, 0));
        Due.outOfBounds("other -1", () -> hall.either(0, -1));
        Due.outOfBounds("other 3 of 3", () -> hall.either(0, 3));
        Due.outOfBounds("the least one", () -> hall.either(MIN, 0));
        Due.outOfBounds("the greatest one", () -> hall.either(MAX, 0));
        Due.outOfBounds("the least other", () -> hall.either(0, MIN));
        Due.outOfBounds("the greatest other", () -> hall.either(0, MAX));
        Due.same("one 0, other 2", hall.either(0, 2), 3);
        Due.same("one 2, other 0", hall.either(2, 0), 4);
        for (int n = 0; n <= 4; n++) {
            hall.number(n);
            Due.same("EITHER of 1 and 3 has " + n, hall.matches(3, n), n == 1 || n == 3);
            Due.same("EITHER of 3 and 1 has " + n, hall.matches(4, n), n == 1 || n == 3);
        }
    }

    private static void typesOfSides() {
        MatchwrightHall hall = new MatchwrightHall();
        hall.type();
        hall.type();
        int number = hall.any(0);
        int one = hall.any(1);
        int two = hall.any(2);
        Due.badArgument("NUMBER and 1", () -> hall.either(number, one));
        Due.badArgument("1 and NUMBER", () -> hall.either(one, number));
        Due.badArgument("1 and 2", () -> hall.either(one, two));
        Due.same("NUMBER and NUMBER", hall.either(number, number), 3);
        Due.same("2 and 2", hall.either(two, two), 4);
        Due.badArgument("it is on the TYPE of its sides", () -> hall.either(4, one));
        Due.same("on that alone", hall.either(4, two), 5);
    }

    private static void namesOfSides() {
        for (int name = 0; name <= 3; name++) {
            MatchwrightHall hall = new MatchwrightHall();
            hall.type();
            hall.record(1, 0, -1);
            hall.record(1, 1, -1);
            int named = hall.name(0, name);
            int other = hall.name(0, (name + 1) % 4);
            int none = hall.any(0);
            String told = "NAME " + name;
            Due.badArgument(told + " in the first side alone", () -> hall.either(named, none));
            Due.badArgument(told + " in the second side alone", () -> hall.either(none, named));
            Due.badArgument(told + " and another", () -> hall.either(named, other));
            Due.same(told + " in both", hall.either(named, named), 3);
            int onNumber = hall.isRecord(0, named, 0);
            int onOne = hall.isRecord(1, hall.name(1, name), 0);
            int topOne = hall.name(1, name);
            Due.badArgument(told + " on NUMBER, and on 1", () -> hall.either(onNumber, onOne));
            Due.badArgument(told + " on 1, and on NUMBER", () -> hall.either(onOne, onNumber));
            Due.same(told + " on 1 at other PLACES", hall.either(onOne, topOne), 8);
            Due.badArgument("an EITHER has " + told + " too", () -> hall.either(3, none));
            Due.same("without NAMES", hall.either(none, none), 9);
        }
    }

    private static void sixPartsOfAnEither() {
        MatchwrightHall hall = new MatchwrightHall();
        hall.type();
        hall.record(1, 1, 1);
        hall.record(1, 1, -1);
        int one = hall.any(1);
        int two = hall.isRecord(1, one, 0);
        int three = hall.isRecord(0, one, one);
        int four = hall.either(two, one);
        int five = hall.either(two, two);
        Due.same("1, 3 and 2", hall.either(three, two), 5);
        Due.same("1, 2 and 3", hall.either(two, three), 6);
        Due.same("1, 4 and 1", hall.either(four, one), 7);
        Due.same("1, 1 and 4", hall.either(one, four), 8);
        Due.badArgument("1, 3 and 3", () -> hall.either(three, three));
        Due.badArgument("1, 5 and 1", () -> hall.either(five, one));
        Due.badArgument("1, 1 and 5", () -> hall.either(one, five));
        Due.badArgument("1, 4 and 2", () -> hall.either(four, two));
        Due.badArgument("1, 2 and 4", () -> hall.either(two, four));
        Due.badArgument("1, 6 and 1", () -> hall.either(5, one));
        Due.badArgument("1, 6 and 6", () -> hall.either(5, 6));
    }

    private static void patternsUsedAgain() {
        MatchwrightHall hall = new MatchwrightHall();
        hall.type();
        hall.record(1, 0, 0);
        hall.number(2);
        hall.number(4);
        hall.make(0, 0, 0);
        hall.make(0, 0, 1);
        int low = hall.range(0, 3);
        int both = hall.isRecord(0, low, low);
        Due.same("in both FIELDS, each matches", hall.matches(both, 2), true);
        Due.same("in both FIELDS, one does not", hall.matches(both, 3), false);
        Due.same("in both sides", hall.either(low, low), 2);
        Due.same("in a CASE", hall.add(both, -1, 0), 0);
        Due.same("in a second one", hall.add(both, -1, 0), 1);
        Due.same("in a RECORD behind that", hall.isRecord(0, low, 2), 3);
        Due.badArgument("its PARTS count each time", () -> hall.either(both, both));
    }

    // ---- promises 7 to 12, when there are 40

    private static MatchwrightHall with39() {
        MatchwrightHall hall = new MatchwrightHall();
        hall.type();
        hall.record(1, 0, -1);
        hall.number(5);
        hall.make(0, 0, 0);
        for (int pattern = 0; pattern < 39; pattern++) {
            hall.range(pattern, pattern);
        }
        return hall;
    }

    private static void fortyPatterns() {
        MatchwrightHall[] halls = new MatchwrightHall[6];
        for (int way = 0; way < 6; way++) {
            halls[way] = with39();
        }
        Due.same("any() with 39 there", halls[0].any(0), 39);
        Due.same("name() with 39 there", halls[1].name(0, 3), 39);
        Due.same("range() with 39 there", halls[2].range(5, 5), 39);
        Due.same("isNone() with 39 there", halls[3].isNone(1), 39);
        Due.same("isRecord() with 39 there", halls[4].isRecord(0, 5, 0), 39);
        Due.same("either() with 39 there", halls[5].either(38, 5), 39);
        for (MatchwrightHall hall : halls) {
            Due.badState("any() with 40 there", () -> hall.any(0));
            Due.badState("name() with 40 there", () -> hall.name(0, 3));
            Due.badState("range() with 40 there", () -> hall.range(5, 5));
            Due.badState("isNone() with 40 there", () -> hall.isNone(1));
            Due.badState("isRecord() with 40 there", () -> hall.isRecord(0, 5, 0));
            Due.badState("either() with 40 there", () -> hall.either(38, 5));
            Due.same("there are 40", hall.many(3), 40);
            Due.outOfBounds("there is no PATTERN 40", () -> hall.matches(40, 0));
        }
        Due.same("the PATTERN 39, ANY", halls[0].matches(39, 0), true);
        Due.same("the PATTERN 39, a RANGE", halls[2].matches(39, 0), true);
        Due.same("the PATTERN 39, a RECORD", halls[4].matches(39, 1), true);
        Due.same("the PATTERN 39, an EITHER", halls[5].matches(39, 0), true);
        Due.same("the PATTERN 39 makes a CASE", halls[1].add(39, 3, 4), 0);
        Due.same("the PATTERN 38", halls[2].matches(38, 0), false);
    }

    // ---- of several exceptions the one that is named first

    private static void severalExceptions() {
        MatchwrightHall hall = Halls.full();
        Due.outOfBounds("any(): no TYPE, 40 PATTERNS", () -> hall.any(5));
        Due.outOfBounds("name(): no TYPE, no NAME, 40 PATTERNS", () -> hall.name(5, 4));
        Due.badArgument("name(): no NAME, 40 PATTERNS", () -> hall.name(0, 4));
        Due.badArgument("range(): a bad low, 40 PATTERNS", () -> hall.range(-100, 0));
        Due.badArgument("range(): a bad high, 40 PATTERNS", () -> hall.range(0, -1));
        Due.outOfBounds("isNone(): no TYPE, 40 PATTERNS", () -> hall.isNone(5));
        Due.badArgument("isNone(): NUMBER, 40 PATTERNS", () -> hall.isNone(0));
        Due.outOfBounds("isRecord(): no RECORD, 40 PATTERNS", () -> hall.isRecord(12, 1, 1));
        Due.outOfBounds("isRecord(): no first, a bad second", () -> hall.isRecord(0, 40, 0));
        Due.outOfBounds("isRecord(): a bad first, no second", () -> hall.isRecord(0, 1, 40));
        Due.outOfBounds("isRecord(): no first, a second too much", () -> hall.isRecord(2, 40, 1));
        Due.badArgument("isRecord(): a bad first, 40 PATTERNS", () -> hall.isRecord(0, 1, 1));
        Due.badArgument("isRecord(): a FIELD too much, 40 PATTERNS", () -> hall.isRecord(1, 1, 0));
        Due.badArgument("isRecord(): a NAME twice, 40 PATTERNS", () -> hall.isRecord(0, 0, 2));
        Due.outOfBounds("either(): no one, 40 PATTERNS", () -> hall.either(40, 0));
        Due.outOfBounds("either(): no other, 40 PATTERNS", () -> hall.either(0, 40));
        Due.badArgument("either(): two TYPES, 40 PATTERNS", () -> hall.either(0, 1));
        Due.badArgument("either(): other NAMES, 40 PATTERNS", () -> hall.either(0, 4));
    }
}
