/** Promises 7 to 12. */
public final class PatternsTest {
    public static void main(String[] args) {
        anyAndName();
        ranges();
        nulls();
        recordPatterns();
        namesInRecords();
        deepAndParts();
        eithers();
        Due.end();
    }

    private static void fill(MatchwrightHall hall) {
        while (hall.many(3) < 40) {
            hall.any(0);
        }
    }

    private static void anyAndName() {
        MatchwrightHall hall = new MatchwrightHall();
        hall.type();
        hall.record(1, -1, -1);
        hall.number(4);
        hall.make(0, 0, 0);
        hall.none(1);
        Due.same("any(0)", hall.any(0), 0);
        Due.same("any(1)", hall.any(1), 1);
        Due.same("name(0, 0)", hall.name(0, 0), 2);
        Due.same("name(1, 3)", hall.name(1, 3), 3);
        Due.outOfBounds("any(2)", () -> hall.any(2));
        Due.outOfBounds("any(-1)", () -> hall.any(-1));
        Due.outOfBounds("name(2, 9)", () -> hall.name(2, 9));
        Due.badArgument("name(0, -1)", () -> hall.name(0, -1));
        Due.badArgument("name(0, 4)", () -> hall.name(0, 4));
        Due.same("nothing was changed", hall.many(3), 4);
        Due.same("any matches a NUMBER", hall.matches(0, 0), true);
        Due.same("any matches a RECORD", hall.matches(1, 1), true);
        Due.same("any at the TOP, NULL", hall.matches(1, 2), false);
        Due.same("a name matches a NUMBER", hall.matches(2, 0), true);
        Due.same("a name matches a RECORD", hall.matches(3, 1), true);
        Due.same("a name at the TOP, NULL", hall.matches(3, 2), false);
        fill(hall);
        Due.badState("a 41st any", () -> hall.any(0));
        Due.outOfBounds("a 41st any of no TYPE", () -> hall.any(2));
        Due.badState("a 41st name", () -> hall.name(0, 0));
        Due.badArgument("a bad 41st name", () -> hall.name(0, 4));
    }

    private static void ranges() {
        MatchwrightHall hall = new MatchwrightHall();
        for (int n = -3; n <= 3; n++) {
            hall.number(n);
        }
        Due.same("range(-1, 2)", hall.range(-1, 2), 0);
        Due.same("range(-99, 99)", hall.range(-99, 99), 1);
        Due.same("range(3, 3)", hall.range(3, 3), 2);
        Due.badArgument("low -100", () -> hall.range(-100, 0));
        Due.badArgument("low 100", () -> hall.range(100, 100));
        Due.badArgument("high 100", () -> hall.range(0, 100));
        Due.badArgument("high below low", () -> hall.range(1, 0));
        for (int n = -3; n <= 3; n++) {
            Due.same("-1 to 2 has " + n, hall.matches(0, n + 3), n >= -1 && n <= 2);
            Due.same("all has " + n, hall.matches(1, n + 3), true);
            Due.same("3 has " + n, hall.matches(2, n + 3), n == 3);
        }
        fill(hall);
        Due.badState("a 41st", () -> hall.range(0, 0));
        Due.badArgument("a bad 41st", () -> hall.range(1, 0));
    }

    private static void nulls() {
        MatchwrightHall hall = new MatchwrightHall();
        hall.type();
        hall.record(1, -1, -1);
        hall.none(1);
        hall.make(0, 0, 0);
        Due.same("isNone(1)", hall.isNone(1), 0);
        Due.badArgument("isNone(0)", () -> hall.isNone(0));
        Due.outOfBounds("isNone(2)", () -> hall.isNone(2));
        Due.outOfBounds("isNone(-1)", () -> hall.isNone(-1));
        Due.same("NULL at the TOP", hall.matches(0, 0), true);
        Due.same("a RECORD is not NULL", hall.matches(0, 1), false);
        fill(hall);
        Due.badState("a 41st", () -> hall.isNone(1));
        Due.badArgument("a 41st on NUMBER", () -> hall.isNone(0));
    }

    private static void recordPatterns() {
        MatchwrightHall hall = new MatchwrightHall();
        hall.type();
        hall.record(1, -1, -1);
        hall.record(1, 0, -1);
        hall.record(1, 1, 0);
        hall.number(7);
        hall.none(1);
        hall.make(1, 0, 0);
        hall.make(2, 1, 0);
        hall.make(2, 2, 0);
        hall.range(0, 9);
        hall.any(1);
        hall.isNone(1);
        Due.same("without FIELDS", hall.isRecord(0, 0, 0), 3);
        Due.same("with one", hall.isRecord(1, 0, 0), 4);
        Due.same("with two", hall.isRecord(2, 1, 0), 5);
        Due.same("NULL in it", hall.isRecord(2, 2, 0), 6);
        Due.same("ANY matches NULL in a FIELD", hall.matches(5, 3), true);
        Due.same("NULL matches NULL in a FIELD", hall.matches(6, 3), true);
        Due.same("NULL does not match a RECORD there", hall.matches(6, 4), false);
        Due.same("a RECORD does not match NULL", hall.matches(4, 1), false);
        Due.same("a RECORD does not match another", hall.matches(4, 4), false);
        Due.outOfBounds("no such RECORD", () -> hall.isRecord(3, 0, 0));
        Due.outOfBounds("RECORD -1", () -> hall.isRecord(-1, 0, 0));
        Due.outOfBounds("no such first", () -> hall.isRecord(1, 7, 0));
        Due.outOfBounds("first -1", () -> hall.isRecord(1, -1, 0));
        Due.outOfBounds("no such second, ahead of a bad first", () -> hall.isRecord(2, 0, 7));
        Due.badArgument("first on another TYPE", () -> hall.isRecord(1, 1, 0));
        Due.badArgument("second on another TYPE", () -> hall.isRecord(2, 1, 1));
        Due.badArgument("first not 0 without one", () -> hall.isRecord(0, 1, 0));
        Due.badArgument("second not 0 without one", () -> hall.isRecord(1, 0, 1));
        Due.badArgument("second 77 without one", () -> hall.isRecord(0, 0, 77));
        Due.same("nothing was changed", hall.many(3), 7);
        fill(hall);
        Due.badState("a 41st", () -> hall.isRecord(0, 0, 0));
        Due.badArgument("a bad 41st", () -> hall.isRecord(0, 1, 0));
    }

    private static void namesInRecords() {
        MatchwrightHall hall = new MatchwrightHall();
        hall.type();
        hall.record(1, 0, 0);
        hall.record(1, 1, 0);
        int zero = hall.name(0, 0);
        int one = hall.name(0, 1);
        int both = hall.isRecord(0, zero, one);
        Due.same("two NAMES", both, 2);
        Due.badArgument("a NAME twice", () -> hall.isRecord(0, zero, zero));
        Due.badArgument("a NAME twice, deeper", () -> hall.isRecord(1, both, one));
        int self = hall.name(1, 0);
        Due.badArgument("a NAME twice on two TYPES", () -> hall.isRecord(1, self, zero));
        Due.same("other NAMES", hall.isRecord(1, self, one), 4);
        int either = hall.either(zero, zero);
        Due.same("a NAME in both sides", hall.isRecord(0, either, one), 6);
        Due.badArgument("a NAME in both sides, and outside", () -> hall.isRecord(0, either, zero));
    }

    private static void deepAndParts() {
        MatchwrightHall hall = new MatchwrightHall();
        hall.type();
        hall.record(1, 1, -1);
        hall.record(1, 1, 1);
        hall.record(1, -1, -1);
        int any = hall.any(1);
        int leaf = hall.isRecord(2, 0, 0);
        int two = hall.isRecord(0, any, 0);
        int three = hall.isRecord(0, two, 0);
        Due.same("3 DEEP", three, 3);
        Due.badArgument("4 DEEP", () -> hall.isRecord(0, three, 0));
        Due.badArgument("4 DEEP, the second", () -> hall.isRecord(1, any, three));
        Due.same("a RECORD without FIELDS is 1 DEEP", hall.isRecord(0, hall.isRecord(0, leaf, 0), 0), 5);
        int either = hall.either(two, two);
        Due.same("EITHER of 2 parts each, no DEEPER", either, 6);
        Due.same("6 PARTS", hall.isRecord(0, either, 0), 7);
        Due.badArgument("7 PARTS", () -> hall.isRecord(1, either, any));
        int pair = hall.isRecord(1, any, any);
        Due.same("6 PARTS by two", hall.isRecord(1, two, pair), 9);
        Due.badArgument("7 PARTS by two", () -> hall.isRecord(1, pair, pair));
        int threeEither = hall.either(three, any);
        Due.badArgument("EITHER is as DEEP as its deeper side", () -> hall.isRecord(0, threeEither, 0));
    }

    private static void eithers() {
        MatchwrightHall hall = new MatchwrightHall();
        hall.type();
        hall.type();
        hall.record(1, 0, -1);
        hall.record(1, -1, -1);
        hall.number(3);
        hall.number(8);
        hall.number(5);
        hall.none(1);
        hall.make(1, 0, 0);
        int low = hall.range(0, 3);
        int high = hall.range(6, 9);
        int either = hall.either(low, high);
        Due.same("either()", either, 2);
        Due.same("its first side", hall.matches(either, 0), true);
        Due.same("its second side", hall.matches(either, 1), true);
        Due.same("none of both", hall.matches(either, 2), false);
        Due.outOfBounds("no such one", () -> hall.either(3, 0));
        Due.outOfBounds("no such other", () -> hall.either(0, 3));
        Due.outOfBounds("-1", () -> hall.either(-1, 0));
        int anyOne = hall.any(1);
        int anyTwo = hall.any(2);
        int nameZero = hall.name(0, 0);
        int nameOne = hall.name(0, 1);
        int nameOn = hall.name(1, 0);
        int holder = hall.isRecord(0, nameZero, 0);
        Due.badArgument("two TYPES", () -> hall.either(anyOne, anyTwo));
        Due.badArgument("NUMBER and another", () -> hall.either(low, anyOne));
        Due.badArgument("a NAME on one side", () -> hall.either(low, nameZero));
        Due.badArgument("a NAME on the other side", () -> hall.either(nameZero, low));
        Due.badArgument("other NAMES", () -> hall.either(nameZero, nameOne));
        Due.badArgument("the same NAME on other TYPES", () -> hall.either(holder, nameOn));
        Due.same("the same NAME on one TYPE", hall.either(nameZero, nameZero), 9);
        int triple = hall.either(either, low);
        Due.same("5 PARTS", triple, 10);
        Due.badArgument("7 PARTS", () -> hall.either(triple, low));
        int nothing = hall.isNone(1);
        int open = hall.either(anyOne, nothing);
        Due.same("ANY at the TOP in an EITHER, then NULL", hall.matches(open, 3), true);
        Due.same("ANY at the TOP in an EITHER alone", hall.matches(hall.either(anyOne, anyOne), 3), false);
        Due.same("ANY at the TOP in an EITHER, a RECORD", hall.matches(open, 4), true);
        fill(hall);
        Due.badState("a 41st", () -> hall.either(low, high));
        Due.badArgument("a bad 41st", () -> hall.either(low, nameZero));
        Due.outOfBounds("a 41st of none", () -> hall.either(40, 0));
    }
}
