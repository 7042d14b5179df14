/** Promises 1 to 6. */
public final class TypesAndValuesTest {
    public static void main(String[] args) {
        aNewObject();
        types();
        records();
        numbers();
        nulls();
        madeRecords();
        Due.end();
    }

    private static void aNewObject() {
        MatchwrightHall hall = new MatchwrightHall();
        int[] due = {1, 0, 0, 0, 0, 0, 0, 0, 0, 0, 0};
        for (int what = 0; what <= 10; what++) {
            Due.same("new many(" + what + ")", hall.many(what), due[what]);
        }
        Due.same("number on the TYPE NUMBER", hall.any(0), 0);
        Due.same("new objects share nothing", new MatchwrightHall().many(3), 0);
    }

    private static void types() {
        MatchwrightHall hall = new MatchwrightHall();
        for (int type = 1; type <= 4; type++) {
            Due.same("type()", hall.type(), type);
        }
        Due.badState("a fifth type()", hall::type);
        Due.same("many(0)", hall.many(0), 5);
    }

    private static void records() {
        MatchwrightHall hall = new MatchwrightHall();
        Due.outOfBounds("record(1, ..) without it", () -> hall.record(1, -1, -1));
        hall.type();
        hall.type();
        Due.same("without FIELDS", hall.record(1, -1, -1), 0);
        Due.same("with one", hall.record(2, 0, -1), 1);
        Due.same("with two, one of its own", hall.record(1, 1, 2), 2);
        Due.outOfBounds("record(-1, ..)", () -> hall.record(-1, -1, -1));
        Due.outOfBounds("record(3, ..) ahead of the others", () -> hall.record(3, 9, 9));
        Due.badArgument("of NUMBER", () -> hall.record(0, -1, -1));
        Due.badArgument("first -2", () -> hall.record(1, -2, -1));
        Due.badArgument("first 3", () -> hall.record(1, 3, -1));
        Due.badArgument("second -2", () -> hall.record(1, 0, -2));
        Due.badArgument("second 3", () -> hall.record(1, 0, 3));
        Due.badArgument("second alone", () -> hall.record(1, -1, 0));
        Due.badArgument("far off", () -> hall.record(1, Integer.MAX_VALUE, Integer.MIN_VALUE));
        Due.same("nothing was changed", hall.many(1), 3);
        for (int record = 3; record < 12; record++) {
            Due.same("record()", hall.record(2, -1, -1), record);
        }
        Due.badState("a 13th", () -> hall.record(2, -1, -1));
        Due.badArgument("a bad 13th", () -> hall.record(0, -1, -1));
        Due.outOfBounds("a 13th of no TYPE", () -> hall.record(3, -1, -1));
        Due.same("many(1)", hall.many(1), 12);
    }

    private static void numbers() {
        MatchwrightHall hall = new MatchwrightHall();
        Due.same("number(-99)", hall.number(-99), 0);
        Due.same("number(99)", hall.number(99), 1);
        Due.badArgument("number(-100)", () -> hall.number(-100));
        Due.badArgument("number(100)", () -> hall.number(100));
        Due.badArgument("number(MIN)", () -> hall.number(Integer.MIN_VALUE));
        Due.same("nothing was changed", hall.many(2), 2);
        for (int value = 2; value < 40; value++) {
            Due.same("number()", hall.number(value), value);
        }
        Due.badState("a 41st", () -> hall.number(0));
        Due.badArgument("a bad 41st", () -> hall.number(100));
        Due.same("many(2)", hall.many(2), 40);
        int least = hall.range(-99, -99);
        int most = hall.range(99, 99);
        Due.same("0 is -99", hall.matches(least, 0), true);
        Due.same("1 is 99", hall.matches(most, 1), true);
        Due.same("1 is not -99", hall.matches(least, 1), false);
    }

    private static void nulls() {
        MatchwrightHall hall = new MatchwrightHall();
        hall.type();
        Due.same("none(1)", hall.none(1), 0);
        Due.badArgument("none(0)", () -> hall.none(0));
        Due.outOfBounds("none(2)", () -> hall.none(2));
        Due.outOfBounds("none(-1)", () -> hall.none(-1));
        Due.same("nothing was changed", hall.many(2), 1);
        Due.same("it is NULL", hall.matches(hall.isNone(1), 0), true);
        for (int value = 1; value < 40; value++) {
            hall.none(1);
        }
        Due.badState("a 41st", () -> hall.none(1));
        Due.badArgument("a 41st of NUMBER", () -> hall.none(0));
        Due.outOfBounds("a 41st of no TYPE", () -> hall.none(2));
    }

    private static void madeRecords() {
        MatchwrightHall hall = new MatchwrightHall();
        hall.type();
        hall.record(1, -1, -1);
        hall.record(1, 0, -1);
        hall.record(1, 0, 1);
        hall.number(5);
        Due.same("without FIELDS", hall.make(0, 0, 0), 1);
        Due.same("with one", hall.make(1, 0, 0), 2);
        Due.same("with two", hall.make(2, 0, 2), 3);
        Due.outOfBounds("no such RECORD", () -> hall.make(3, 0, 0));
        Due.outOfBounds("RECORD -1", () -> hall.make(-1, 0, 0));
        Due.outOfBounds("no such first", () -> hall.make(1, 4, 0));
        Due.outOfBounds("first -1", () -> hall.make(1, -1, 0));
        Due.outOfBounds("no such second, ahead of a bad first", () -> hall.make(2, 1, 4));
        Due.badArgument("first of another TYPE", () -> hall.make(1, 1, 0));
        Due.badArgument("second of another TYPE", () -> hall.make(2, 0, 0));
        Due.badArgument("first not 0 without one", () -> hall.make(0, 1, 0));
        Due.badArgument("first -1 without one", () -> hall.make(0, -1, 0));
        Due.badArgument("second not 0 without one", () -> hall.make(1, 0, 1));
        Due.badArgument("second 99 without one", () -> hall.make(0, 0, 99));
        Due.same("nothing was changed", hall.many(2), 4);
        hall.any(1);
        hall.range(5, 5);
        hall.isRecord(1, 1, 0);
        hall.isRecord(2, 1, 2);
        Due.same("its FIELDS are as told", hall.matches(3, 3), true);
        Due.same("it is of its RECORD", hall.matches(2, 3), false);
        while (hall.many(2) < 40) {
            hall.make(0, 0, 0);
        }
        Due.badState("a 41st", () -> hall.make(0, 0, 0));
        Due.badArgument("a bad 41st", () -> hall.make(0, 1, 0));
        Due.outOfBounds("a 41st of no RECORD", () -> hall.make(3, 0, 0));
    }
}
