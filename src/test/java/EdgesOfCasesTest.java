/** Promises 13 to 18 at their edges: the last that is allowed, and the first that is not. */
public final class EdgesOfCasesTest {
    private static final int MIN = Integer.MIN_VALUE;
    private static final int MAX = Integer.MAX_VALUE;

    public static void main(String[] args) {
        patternsOfCases();
        typesOfCases();
        guardsOfCases();
        guardsOnNumber();
        numbersWithoutGuards();
        sixCases();
        cutting();
        matching();
        valuesThatAreTaken();
        guardsHoldAbove();
        guardsOfWideNumbers();
        missedOrRefused();
        valuesLookedAt();
        noneLookedAt();
        allPlacesLookedAt();
        placesLookedAtOnce();
        sidesLookedAt();
        namesThatAreBound();
        boundToFirstAndLast();
        severalExceptions();
        Due.end();
    }

    // ---- promise 13

    private static void patternsOfCases() {
        MatchwrightHall hall = new MatchwrightHall();
        Due.outOfBounds("PATTERN 0, if there is none", () -> hall.add(0, -1, 0));
        hall.any(0);
        hall.any(0);
        hall.any(0);
        Due.outOfBounds("PATTERN -1", () -> hall.add(-1, -1, 0));
        Due.same("PATTERN 0", hall.add(0, -1, 0), 0);
        Due.same("PATTERN 2, the last", hall.add(2, -1, 0), 1);
        Due.outOfBounds("PATTERN 3 of 3", () -> hall.add(3, -1, 0));
        Due.outOfBounds("the least PATTERN", () -> hall.add(MIN, -1, 0));
        Due.outOfBounds("the greatest PATTERN", () -> hall.add(MAX, -1, 0));
        Due.same("two are added", hall.many(4), 2);
    }

    private static void typesOfCases() {
        MatchwrightHall hall = new MatchwrightHall();
        hall.type();
        hall.type();
        int number = hall.any(0);
        int one = hall.any(1);
        int two = hall.any(2);
        Due.same("the first one on any TYPE", hall.add(one, -1, 0), 0);
        Due.badArgument("NUMBER beside one CASE on 1", () -> hall.add(number, -1, 0));
        Due.badArgument("2 beside one CASE on 1", () -> hall.add(two, -1, 0));
        Due.same("1 beside it", hall.add(one, -1, 0), 1);
        hall.cut();
        Due.badArgument("2 beside the one that is left", () -> hall.add(two, -1, 0));
        hall.cut();
        Due.same("2, when none is left", hall.add(two, -1, 0), 0);
        Due.badArgument("1 beside one CASE on 2", () -> hall.add(one, -1, 0));
        hall.cut();
        Due.same("NUMBER, when none is left", hall.add(number, -1, 0), 0);
        Due.badArgument("1 beside one CASE on NUMBER", () -> hall.add(one, -1, 0));
    }

    private static void guardsOfCases() {
        MatchwrightHall hall = new MatchwrightHall();
        for (int name = 0; name <= 3; name++) {
            hall.name(0, name);
        }
        int any = hall.any(0);
        for (int pattern = 0; pattern <= 3; pattern++) {
            for (int guard = 0; guard <= 3; guard++) {
                int one = pattern;
                int other = guard;
                if (guard == pattern) {
                    Due.same("GUARD " + guard, hall.add(pattern, guard, 0), 0);
                    hall.cut();
                } else {
                    Due.badArgument("GUARD " + guard + " of NAME " + one, () -> hall.add(one, other, 0));
                }
            }
            int named = pattern;
            Due.badArgument("GUARD -2", () -> hall.add(named, -2, 0));
            Due.badArgument("GUARD 4", () -> hall.add(named, 4, 0));
            Due.badArgument("the least GUARD", () -> hall.add(named, MIN, 0));
            Due.badArgument("the greatest GUARD", () -> hall.add(named, MAX, 0));
            Due.same("without a GUARD", hall.add(pattern, -1, 0), 0);
            hall.cut();
            Due.badArgument("a GUARD of ANY", () -> hall.add(any, other(named), 0));
        }
        Due.same("nothing is left", hall.many(4), 0);
    }

    private static int other(int name) {
        return 3 - name;
    }

    private static void guardsOnNumber() {
        MatchwrightHall hall = new MatchwrightHall();
        hall.type();
        hall.record(1, 0, 1);
        int number = hall.name(0, 3);
        int sealed = hall.name(1, 0);
        int pair = hall.isRecord(0, number, sealed);
        Due.badArgument("a NAME that it has on 1", () -> hall.add(pair, 0, 0));
        Due.badArgument("a NAME on 1 at the TOP", () -> hall.add(sealed, 0, 0));
        Due.badArgument("a NAME that it has not", () -> hall.add(pair, 1, 0));
        Due.same("a NAME that it has on NUMBER", hall.add(pair, 3, 0), 0);
        int low = hall.range(0, 9);
        int open = hall.any(1);
        int deep = hall.isRecord(0, low, hall.isRecord(0, number, open));
        Due.same("a NAME that it has deeper", hall.add(deep, 3, 0), 1);
        hall.record(1, 0, -1);
        int holder = hall.isRecord(1, number, 0);
        Due.same("a NAME in both sides", hall.add(hall.either(holder, holder), 3, 0), 2);
    }

    private static void numbersWithoutGuards() {
        MatchwrightHall hall = new MatchwrightHall();
        int name = hall.name(0, 0);
        Due.badArgument("number -1 without a GUARD", () -> hall.add(name, -1, -1));
        Due.badArgument("number 1 without a GUARD", () -> hall.add(name, -1, 1));
        Due.badArgument("the least number without a GUARD", () -> hall.add(name, -1, MIN));
        Due.badArgument("the greatest number without a GUARD", () -> hall.add(name, -1, MAX));
        Due.same("number 0 without a GUARD", hall.add(name, -1, 0), 0);
        Due.same("number 0 with a GUARD", hall.add(name, 0, 0), 1);
        Due.same("number -1 with a GUARD", hall.add(name, 0, -1), 2);
        Due.same("the least number with a GUARD", hall.add(name, 0, MIN), 3);
        Due.same("the greatest number with a GUARD", hall.add(name, 0, MAX), 4);
    }

    private static void sixCases() {
        MatchwrightHall hall = new MatchwrightHall();
        int name = hall.name(0, 0);
        for (int number = 0; number < 5; number++) {
            hall.add(name, 0, 50);
        }
        Due.same("with 5 there", hall.add(name, 0, 7), 5);
        Due.badState("with 6 there", () -> hall.add(name, 0, 7));
        Due.badState("with 6 there, without a GUARD", () -> hall.add(name, -1, 0));
        Due.same("there are 6", hall.many(4), 6);
        hall.number(8);
        hall.number(7);
        Due.same("the CASE 5 takes what its GUARD lets", hall.takes(0), 5);
        Due.same("and not the rest", hall.takes(1), -1);
        Due.same("it is REACHED", hall.isReached(5), true);
        Due.outOfBounds("there is no CASE 6", () -> hall.isReached(6));
        hall.cut();
        Due.same("with 5 there again", hall.add(name, -1, 0), 5);
        Due.badState("with 6 there again", () -> hall.add(name, -1, 0));
    }

    // ---- promise 14

    private static void cutting() {
        MatchwrightHall hall = new MatchwrightHall();
        hall.number(4);
        hall.any(0);
        hall.range(0, 9);
        hall.name(0, 1);
        Due.badState("without CASES", hall::cut);
        hall.add(1, -1, 0);
        hall.add(0, -1, 0);
        hall.add(2, 1, 3);
        Due.same("the last of three", hall.cut(), 2);
        Due.same("two are left", hall.many(4), 2);
        Due.same("the last of two", hall.cut(), 0);
        Due.same("the one that is left takes", hall.takes(0), 0);
        Due.same("the last of one", hall.cut(), 1);
        Due.same("none takes", hall.takes(0), -1);
        Due.badState("when all are cut", hall::cut);
        Due.badState("and again", hall::cut);
        Due.same("none is left", hall.many(4), 0);
        Due.same("the next one is 0", hall.add(2, 1, 3), 0);
        Due.same("its PATTERN", hall.cut(), 2);
    }

    // ---- promise 15

    private static void matching() {
        MatchwrightHall hall = new MatchwrightHall();
        hall.type();
        hall.range(3, 3);
        hall.any(1);
        hall.range(4, 4);
        hall.number(3);
        hall.none(1);
        hall.number(4);
        Due.same("PATTERN 0, VALUE 0", hall.matches(0, 0), true);
        Due.same("PATTERN 2, VALUE 2, the last ones", hall.matches(2, 2), true);
        Due.same("PATTERN 0, VALUE 2", hall.matches(0, 2), false);
        Due.outOfBounds("PATTERN -1", () -> hall.matches(-1, 0));
        Due.outOfBounds("PATTERN 3 of 3", () -> hall.matches(3, 0));
        Due.outOfBounds("VALUE -1", () -> hall.matches(0, -1));
        Due.outOfBounds("VALUE 3 of 3", () -> hall.matches(0, 3));
        Due.outOfBounds("the least PATTERN", () -> hall.matches(MIN, 0));
        Due.outOfBounds("the greatest PATTERN", () -> hall.matches(MAX, 0));
        Due.outOfBounds("the least VALUE", () -> hall.matches(0, MIN));
        Due.outOfBounds("the greatest VALUE", () -> hall.matches(0, MAX));
        Due.badArgument("NUMBER and 1", () -> hall.matches(0, 1));
        Due.badArgument("1 and NUMBER", () -> hall.matches(1, 0));
        Due.same("as at the TOP", hall.matches(1, 1), false);
        Due.same("of CASES there are none", hall.many(4), 0);
    }

    // ---- promise 16

    private static MatchwrightHall ofThree() {
        MatchwrightHall hall = new MatchwrightHall();
        hall.type();
        hall.number(3);
        hall.none(1);
        hall.number(4);
        hall.range(3, 3);
        hall.name(0, 2);
        hall.add(0, -1, 0);
        hall.add(1, -1, 0);
        return hall;
    }

    private static void valuesThatAreTaken() {
        MatchwrightHall hall = ofThree();
        Due.outOfBounds("takes(-1)", () -> hall.takes(-1));
        Due.same("takes(0)", hall.takes(0), 0);
        Due.same("takes(2), the last VALUE", hall.takes(2), 1);
        Due.outOfBounds("takes(3) of 3", () -> hall.takes(3));
        Due.outOfBounds("takes(MIN)", () -> hall.takes(MIN));
        Due.outOfBounds("takes(MAX)", () -> hall.takes(MAX));
        Due.badArgument("CASES on another TYPE", () -> hall.takes(1));
        hall.cut();
        Due.badArgument("one CASE on another TYPE", () -> hall.takes(1));
        hall.cut();
        Due.same("without any it is REFUSED", hall.takes(1), -2);
        Due.same("without any a NUMBER is MISSED", hall.takes(0), -1);
    }

    private static void guardsHoldAbove() {
        int[] numbers = {-100, -99, -98, -1, 0, 1, 97, 98, 99, 100, MIN, MIN + 1, MAX - 1, MAX};
        int[] values = {-99, -98, -1, 0, 1, 98, 99};
        for (int number : numbers) {
            MatchwrightHall hall = new MatchwrightHall();
            int name = hall.name(0, 3);
            hall.add(name, 3, number);
            hall.compile();
            for (int value = 0; value < values.length; value++) {
                hall.number(values[value]);
                int due = values[value] > number ? 0 : -1;
                Due.same(values[value] + " above " + number, hall.takes(value), due);
                Due.same(values[value] + " above " + number + ", by the tree", hall.down(value), due);
            }
        }
    }

    private static void guardsOfWideNumbers() {
        MatchwrightHall hall = new MatchwrightHall();
        hall.type();
        hall.record(1, 0, 0);
        hall.number(-99);
        hall.number(99);
        hall.make(0, 0, 1);
        int name = hall.name(0, 0);
        int pair = hall.isRecord(0, name, hall.any(0));
        hall.add(pair, 0, -99);
        Due.same("the GUARD is of its NAME, not of the VALUE beside it", hall.takes(2), -1);
        hall.add(hall.isRecord(0, hall.any(0), name), 0, 98);
        Due.same("and of the NAME in the FIELD 1", hall.takes(2), 1);
    }

    private static void missedOrRefused() {
        MatchwrightHall hall = new MatchwrightHall();
        hall.type();
        hall.record(1, 1, -1);
        hall.none(1);
        hall.make(0, 0, 0);
        int any = hall.any(1);
        int name = hall.name(1, 0);
        int nothing = hall.isNone(1);
        int twoOpen = hall.either(any, any);
        hall.add(any, -1, 0);
        Due.same("NULL and ANY at the TOP", hall.takes(0), -2);
        Due.same("a RECORD and ANY at the TOP", hall.takes(1), 0);
        hall.cut();
        hall.add(name, -1, 0);
        Due.same("NULL and a NAME at the TOP", hall.takes(0), -2);
        hall.cut();
        hall.add(twoOpen, -1, 0);
        Due.same("NULL and ANY in an EITHER at the TOP", hall.takes(0), -2);
        hall.cut();
        hall.add(hall.either(any, hall.either(any, nothing)), -1, 0);
        Due.same("NULL and NULL in an EITHER in an EITHER", hall.takes(0), 0);
        hall.cut();
        hall.add(nothing, -1, 0);
        Due.same("NULL and NULL", hall.takes(0), 0);
        Due.same("a RECORD and NULL", hall.takes(1), -1);
        hall.cut();
        hall.add(hall.isRecord(0, any, 0), -1, 0);
        Due.same("NULL and a RECORD", hall.takes(0), -2);
        Due.same("NULL in a FIELD, and ANY there", hall.takes(1), 0);
        hall.cut();
        hall.add(hall.isRecord(0, name, 0), -1, 0);
        Due.same("NULL in a FIELD, and a NAME there", hall.takes(1), 0);
        Due.same("the NAME is BOUND to NULL", hall.bound(1, 0), 0);
        hall.cut();
        hall.add(hall.isRecord(0, twoOpen, 0), -1, 0);
        Due.same("NULL in a FIELD, and an EITHER there", hall.takes(1), 0);
    }

    // ---- promise 17

    private static void valuesLookedAt() {
        MatchwrightHall hall = ofThree();
        Due.outOfBounds("looks(-1)", () -> hall.looks(-1));
        Due.same("looks(0)", hall.looks(0), 1);
        Due.same("looks(2), the last VALUE", hall.looks(2), 1);
        Due.outOfBounds("looks(3) of 3", () -> hall.looks(3));
        Due.outOfBounds("looks(MIN)", () -> hall.looks(MIN));
        Due.outOfBounds("looks(MAX)", () -> hall.looks(MAX));
        Due.badArgument("CASES on another TYPE", () -> hall.looks(1));
    }

    private static void noneLookedAt() {
        MatchwrightHall hall = new MatchwrightHall();
        hall.type();
        hall.record(1, 0, 0);
        hall.number(3);
        hall.make(0, 0, 0);
        hall.none(1);
        Due.same("without CASES", hall.looks(1), 0);
        hall.add(hall.name(1, 0), -1, 0);
        Due.same("by a NAME", hall.looks(1), 0);
        Due.same("NULL by a NAME", hall.looks(2), 0);
        hall.cut();
        int any = hall.any(1);
        hall.add(hall.either(any, any), -1, 0);
        Due.same("by an EITHER of ANY", hall.looks(1), 0);
        Due.same("NULL by an EITHER of ANY", hall.looks(2), 0);
        hall.cut();
        MatchwrightHall number = new MatchwrightHall();
        number.number(3);
        number.add(number.name(0, 0), 0, 9);
        Due.same("by a GUARD", number.looks(0), 0);
        number.add(number.range(5, 6), -1, 0);
        Due.same("by a RANGE behind it", number.looks(0), 1);
        number.add(number.range(3, 3), -1, 0);
        Due.same("by a second RANGE at that PLACE", number.looks(0), 1);
    }

    private static void allPlacesLookedAt() {
        MatchwrightHall hall = new MatchwrightHall();
        hall.type();
        hall.record(1, 1, 1);
        hall.record(1, 0, 0);
        hall.number(3);
        hall.number(5);
        int inner = hall.make(1, 0, 0);
        int last = hall.make(1, 0, 1);
        int low = hall.range(3, 3);
        int any = hall.any(1);
        int both = hall.isRecord(1, low, low);
        hall.add(hall.isRecord(0, both, any), -1, 0);
        hall.add(hall.isRecord(0, any, both), -1, 0);
        Due.same("the PLACES 1, 2, 4 and 5", hall.looks(hall.make(0, inner, inner)), 4);
        Due.same("the PLACES 1 to 7", hall.looks(hall.make(0, last, inner)), 7);
        Due.same("the PLACES 1 to 7, though MISSED", hall.looks(hall.make(0, last, last)), 7);
        int nothing = hall.none(1);
        Due.same("the PLACES 1 and 2, then 3, 6 and 7", hall.looks(hall.make(0, nothing, inner)), 5);
        Due.same("the PLACES 1 to 3", hall.looks(hall.make(0, nothing, nothing)), 3);
        Due.same("the PLACE 1", hall.looks(inner), 1);
        Due.same("the PLACE 1 of NULL", hall.looks(nothing), 1);
    }

    private static void placesLookedAtOnce() {
        MatchwrightHall hall = new MatchwrightHall();
        hall.type();
        hall.record(1, 1, 1);
        hall.none(1);
        int full = hall.make(0, 0, 0);
        int half = hall.make(0, full, 0);
        int nothing = hall.isNone(1);
        int any = hall.any(1);
        hall.add(hall.isRecord(0, any, nothing), -1, 0);
        Due.same("NULL is tried on the PLACE 3", hall.looks(full), 2);
        hall.cut();
        hall.add(hall.isRecord(0, nothing, nothing), -1, 0);
        Due.same("and on the PLACE 2", hall.looks(full), 3);
        Due.same("on the PLACE 2 alone, if it does not match", hall.looks(half), 2);
        hall.add(hall.isRecord(0, any, nothing), -1, 0);
        Due.same("by the next CASE on the PLACE 3", hall.looks(half), 3);
        hall.add(hall.isRecord(0, nothing, any), -1, 0);
        Due.same("each PLACE counts once", hall.looks(half), 3);
        MatchwrightHall mixed = new MatchwrightHall();
        mixed.type();
        mixed.record(1, 0, 1);
        mixed.record(1, 1, 0);
        mixed.number(3);
        mixed.none(1);
        mixed.make(0, 0, 1);
        mixed.make(1, 1, 0);
        int three = mixed.range(3, 3);
        mixed.add(mixed.isRecord(0, three, mixed.isNone(1)), -1, 0);
        Due.same("a RANGE at the PLACE 2, NULL at 3", mixed.looks(2), 3);
        mixed.add(mixed.isRecord(1, mixed.isNone(1), three), -1, 0);
        Due.same("NULL at the PLACE 2, a RANGE at 3", mixed.looks(3), 3);
    }

    private static void sidesLookedAt() {
        MatchwrightHall hall = new MatchwrightHall();
        hall.type();
        hall.record(1, 0, -1);
        hall.record(1, -1, -1);
        hall.number(3);
        hall.number(5);
        int three = hall.make(0, 0, 0);
        int five = hall.make(0, 1, 0);
        int bare = hall.make(1, 0, 0);
        int nothing = hall.none(1);
        int any = hall.any(1);
        int open = hall.isRecord(0, hall.any(0), 0);
        int low = hall.isRecord(0, hall.range(3, 3), 0);
        hall.add(hall.either(open, low), -1, 0);
        Due.same("the first side alone, if it matches", hall.looks(three), 1);
        hall.cut();
        hall.add(hall.either(hall.isRecord(1, 0, 0), low), -1, 0);
        Due.same("the second side too, if it does not", hall.looks(three), 2);
        Due.same("the second side, though it does not match", hall.looks(five), 2);
        Due.same("the first side alone, of another RECORD", hall.looks(bare), 1);
        hall.cut();
        hall.add(hall.either(any, low), -1, 0);
        Due.same("a first side that is ANY", hall.looks(three), 0);
        Due.same("NULL, that ANY does not match at the TOP", hall.looks(nothing), 1);
        hall.cut();
        hall.add(hall.either(low, any), -1, 0);
        Due.same("a second side that is ANY", hall.looks(five), 2);
    }

    // ---- promise 18

    private static void namesThatAreBound() {
        MatchwrightHall hall = ofThree();
        Due.outOfBounds("bound(-1, 2)", () -> hall.bound(-1, 2));
        Due.same("bound(0, 2), TAKEN by a CASE without a NAME", hall.bound(0, 2), -1);
        Due.same("bound(2, 2), the last VALUE", hall.bound(2, 2), 2);
        Due.outOfBounds("bound(3, 2) of 3", () -> hall.bound(3, 2));
        Due.outOfBounds("bound(MIN, 2)", () -> hall.bound(MIN, 2));
        Due.outOfBounds("bound(MAX, 2)", () -> hall.bound(MAX, 2));
        Due.badArgument("CASES on another TYPE", () -> hall.bound(1, 2));
        Due.badArgument("NAME -1", () -> hall.bound(2, -1));
        Due.same("NAME 0, that it has not", hall.bound(2, 0), -1);
        Due.same("NAME 1, that it has not", hall.bound(2, 1), -1);
        Due.same("NAME 3, that it has not", hall.bound(2, 3), -1);
        Due.badArgument("NAME 4", () -> hall.bound(2, 4));
        Due.badArgument("the least NAME", () -> hall.bound(2, MIN));
        Due.badArgument("the greatest NAME", () -> hall.bound(2, MAX));
        hall.cut();
        Due.same("MISSED", hall.bound(2, 2), -1);
        hall.cut();
        Due.same("without CASES", hall.bound(2, 2), -1);
        Due.same("NULL without CASES", hall.bound(1, 2), -1);
        Due.badArgument("NAME 4 without CASES", () -> hall.bound(1, 4));
    }

    private static void boundToFirstAndLast() {
        MatchwrightHall hall = new MatchwrightHall();
        hall.type();
        hall.record(1, 0, 1);
        hall.number(8);
        hall.none(1);
        for (int value = 2; value < 38; value++) {
            hall.number(value);
        }
        hall.number(9);
        int last = hall.make(0, 38, 1);
        int zero = hall.name(0, 0);
        int three = hall.name(1, 3);
        int pair = hall.isRecord(0, zero, three);
        hall.add(pair, 0, 8);
        Due.same("the VALUE 39", last, 39);
        Due.same("NAME 0 is the VALUE 38", hall.bound(last, 0), 38);
        Due.same("NAME 3 is the VALUE 1", hall.bound(last, 3), 1);
        hall.cut();
        hall.add(hall.name(1, 2), -1, 0);
        Due.same("NAME 2 is the VALUE 39 itself", hall.bound(last, 2), 39);
        Due.same("NAME 0 is BOUND no more", hall.bound(last, 0), -1);
        hall.cut();
        hall.add(hall.name(0, 1), -1, 0);
        Due.same("NAME 1 is the VALUE 0 itself", hall.bound(0, 1), 0);
    }

    // ---- of several exceptions the one that is named first

    private static void severalExceptions() {
        MatchwrightHall hall = Halls.full();
        Due.outOfBounds("add(): no PATTERN, no GUARD, 6 CASES", () -> hall.add(40, 4, 0));
        Due.badArgument("add(): another TYPE, 6 CASES", () -> hall.add(0, -1, 0));
        Due.badArgument("add(): no GUARD, 6 CASES", () -> hall.add(2, 4, 0));
        Due.badArgument("add(): a number without a GUARD, 6 CASES", () -> hall.add(2, -1, 1));
        Due.badState("add(): 6 CASES alone", () -> hall.add(2, 0, 1));
        Due.outOfBounds("matches(): no PATTERN, no VALUE", () -> hall.matches(40, 40));
        Due.outOfBounds("matches(): no PATTERN, a VALUE of NUMBER", () -> hall.matches(40, 0));
        Due.outOfBounds("matches(): a PATTERN on 1, no VALUE", () -> hall.matches(1, 40));
        Due.outOfBounds("bound(): no VALUE, no NAME", () -> hall.bound(40, 4));
        Due.badArgument("bound(): another TYPE, no NAME", () -> hall.bound(0, 4));
    }
}
