/** Promises 24 (of all values), 26 and 27. */
public final class AllValuesTest {
    public static void main(String[] args) {
        reached();
        nullIsReached();
        reachedByRecords();
        missingNumbers();
        missingRecords();
        missingDeep();
        missingBehindAFullRecord();
        nothingMissing();
        counts();
        Due.end();
    }

    private static void reached() {
        MatchwrightHall hall = new MatchwrightHall();
        Due.outOfBounds("without CASES", () -> hall.isReached(0));
        int low = hall.range(0, 3);
        int high = hall.range(4, 9);
        int all = hall.range(0, 9);
        int name = hall.name(0, 0);
        hall.add(name, 0, -100);
        hall.add(low, -1, 0);
        hall.add(high, -1, 0);
        hall.add(all, -1, 0);
        hall.add(name, 0, 99);
        hall.add(all, -1, 0);
        Due.same("the first one", hall.isReached(0), true);
        Due.same("behind a GUARD, though that always holds", hall.isReached(1), true);
        Due.same("beside another", hall.isReached(2), true);
        Due.same("behind two that have it all", hall.isReached(3), false);
        Due.same("its GUARD never holds, but its PATTERN matches", hall.isReached(4), true);
        Due.same("behind all", hall.isReached(5), false);
        Due.outOfBounds("isReached(6)", () -> hall.isReached(6));
        Due.outOfBounds("isReached(-1)", () -> hall.isReached(-1));
        Due.same("many(5)", hall.many(5), 4);
    }

    private static void nullIsReached() {
        MatchwrightHall hall = new MatchwrightHall();
        hall.type();
        int any = hall.any(1);
        int nothing = hall.isNone(1);
        hall.add(any, -1, 0);
        hall.add(nothing, -1, 0);
        hall.add(nothing, -1, 0);
        hall.add(hall.either(any, nothing), -1, 0);
        Due.same("ANY of a TYPE without RECORDS", hall.isReached(0), false);
        Due.same("NULL behind ANY", hall.isReached(1), true);
        Due.same("NULL behind NULL", hall.isReached(2), false);
        Due.same("both behind both", hall.isReached(3), false);
        hall.record(1, -1, -1);
        Due.same("with RECORDS as they are now", hall.isReached(0), true);
        Due.same("and that is all", hall.isReached(3), false);
    }

    private static void reachedByRecords() {
        MatchwrightHall hall = new MatchwrightHall();
        hall.type();
        hall.record(1, 1, 0);
        hall.record(1, -1, -1);
        int any = hall.any(1);
        int number = hall.any(0);
        int low = hall.range(-99, 0);
        int high = hall.range(1, 99);
        int leaf = hall.isRecord(1, 0, 0);
        int nothing = hall.isNone(1);
        hall.add(hall.isRecord(0, leaf, low), -1, 0);
        hall.add(hall.isRecord(0, leaf, high), -1, 0);
        hall.add(hall.isRecord(0, nothing, number), -1, 0);
        hall.add(hall.isRecord(0, leaf, number), -1, 0);
        hall.add(hall.isRecord(0, any, high), -1, 0);
        Due.same("both halves are had", hall.isReached(3), false);
        Due.same("the RECORD 0 in the FIELD is left", hall.isReached(4), true);
        hall.cut();
        hall.add(hall.isRecord(0, hall.either(leaf, nothing), number), -1, 0);
        Due.same("each side is had", hall.isReached(4), false);
    }

    private static String missing(MatchwrightHall hall) {
        StringBuilder told = new StringBuilder();
        for (int place = 1; place <= 63; place++) {
            if (hall.missing(place) != -2) {
                told.append(told.length() == 0 ? "" : " ").append(place).append('=').append(hall.missing(place));
            }
        }
        return told.toString();
    }

    private static void missingNumbers() {
        MatchwrightHall hall = new MatchwrightHall();
        Due.sameText("without CASES", missing(hall), "");
        Due.badArgument("missing(0)", () -> hall.missing(0));
        Due.badArgument("missing(64)", () -> hall.missing(64));
        Due.badArgument("missing(-1)", () -> hall.missing(-1));
        int name = hall.name(0, 1);
        hall.add(name, 1, -100);
        Due.sameText("a CASE with a GUARD does not count", missing(hall), "1=901");
        hall.add(hall.range(-99, 4), -1, 0);
        Due.sameText("the least one", missing(hall), "1=1005");
        hall.add(hall.range(6, 99), -1, 0);
        Due.sameText("the one between", missing(hall), "1=1005");
        hall.add(hall.range(5, 5), -1, 0);
        Due.sameText("nothing", missing(hall), "");
    }

    private static void missingRecords() {
        MatchwrightHall hall = new MatchwrightHall();
        hall.type();
        hall.type();
        int nothing = hall.isNone(1);
        hall.add(nothing, -1, 0);
        Due.sameText("NULL at the TOP is not MISSING", missing(hall), "");
        hall.record(2, -1, -1);
        hall.record(1, 0, 2);
        hall.record(1, -1, -1);
        Due.sameText("the RECORD with the least number, and the least in it", missing(hall), "1=1 2=901 3=-1");
        int zero = hall.range(-99, 0);
        int other = hall.any(2);
        hall.add(hall.isRecord(1, zero, other), -1, 0);
        Due.sameText("a NUMBER behind", missing(hall), "1=1 2=1001 3=-1");
        int noOther = hall.isNone(2);
        int number = hall.any(0);
        hall.cut();
        hall.add(hall.isRecord(1, zero, noOther), -1, 0);
        Due.sameText("FIELD 0 is ahead of FIELD 1", missing(hall), "1=1 2=901 3=0");
        hall.add(hall.isRecord(1, number, other), -1, 0);
        Due.sameText("the next RECORD", missing(hall), "1=2");
        hall.add(hall.isRecord(2, 0, 0), -1, 0);
        Due.sameText("nothing", missing(hall), "");
        hall.record(1, -1, -1);
        Due.sameText("RECORDS as they are now", missing(hall), "1=3");
    }

    private static void missingDeep() {
        MatchwrightHall hall = new MatchwrightHall();
        hall.type();
        hall.record(1, 1, 0);
        int any = hall.any(1);
        int number = hall.any(0);
        int nothing = hall.isNone(1);
        hall.add(hall.isRecord(0, nothing, number), -1, 0);
        Due.sameText("a RECORD in a FIELD", missing(hall), "1=0 2=0 3=901 4=-1 5=901");
        int noneInIt = hall.isRecord(0, nothing, number);
        hall.add(hall.isRecord(0, noneInIt, number), -1, 0);
        Due.sameText("deeper than any PATTERN", missing(hall), "1=0 2=0 3=901 4=0 5=901 8=-1 9=901");
        hall.add(hall.isRecord(0, any, number), -1, 0);
        Due.sameText("nothing", missing(hall), "");
    }

    /** What was tried in a RECORD that has nothing MISSING must not be told of the next one. */
    private static void missingBehindAFullRecord() {
        MatchwrightHall flat = new MatchwrightHall();
        flat.type();
        flat.record(1, 0, 0);
        flat.record(1, 0, -1);
        int number = flat.any(0);
        flat.add(flat.isRecord(0, number, flat.range(-99, 0)), -1, 0);
        flat.add(flat.isRecord(0, number, flat.range(1, 99)), -1, 0);
        Due.sameText("a RECORD with a FIELD less", missing(flat), "1=1 2=901");
        MatchwrightHall hall = new MatchwrightHall();
        hall.type();
        hall.record(1, 1, 0);
        hall.record(1, -1, -1);
        int all = hall.any(0);
        int any = hall.any(1);
        int nothing = hall.isNone(1);
        int low = hall.range(-99, 0);
        int high = hall.range(1, 99);
        hall.add(hall.isRecord(0, nothing, all), -1, 0);
        hall.add(hall.isRecord(0, hall.isRecord(1, 0, 0), all), -1, 0);
        hall.add(hall.isRecord(0, hall.isRecord(0, any, low), all), -1, 0);
        hall.add(hall.isRecord(0, hall.isRecord(0, any, high), all), -1, 0);
        Due.sameText("a RECORD without FIELDS", missing(hall), "1=1");
        hall.cut();
        hall.cut();
        hall.add(hall.isRecord(0, hall.isRecord(0, nothing, all), all), -1, 0);
        hall.add(hall.isRecord(0, hall.isRecord(0, any, low), all), -1, 0);
        hall.add(hall.isRecord(0, hall.isRecord(0, any, high), all), -1, 0);
        Due.sameText("also deeper", missing(hall), "1=1");
        MatchwrightHall other = new MatchwrightHall();
        other.type();
        other.type();
        other.record(1, 2, 0);
        other.record(1, -1, -1);
        other.record(2, 2, 0);
        int number2 = other.any(0);
        int any2 = other.any(2);
        int nothing2 = other.isNone(2);
        other.add(other.isRecord(0, nothing2, number2), -1, 0);
        other.add(other.isRecord(0, other.isRecord(2, nothing2, number2), number2), -1, 0);
        other.add(other.isRecord(0, other.isRecord(2, any2, other.range(-99, 0)), number2), -1, 0);
        other.add(other.isRecord(0, other.isRecord(2, any2, other.range(1, 99)), number2), -1, 0);
        Due.sameText("also below the TOP alone", missing(other), "1=1");
    }

    private static void nothingMissing() {
        MatchwrightHall hall = new MatchwrightHall();
        hall.type();
        hall.record(1, 0, -1);
        hall.add(hall.any(1), -1, 0);
        Due.same("many(6)", hall.many(6), 0);
        Due.sameText("ANY has all", missing(hall), "");
        hall.cut();
        hall.add(hall.isRecord(0, hall.range(-99, 98), 0), -1, 0);
        Due.same("many(6)", hall.many(6), 1);
        Due.sameText("the greatest NUMBER", missing(hall), "1=0 2=1099");
    }

    private static void counts() {
        MatchwrightHall hall = new MatchwrightHall();
        hall.type();
        hall.record(1, -1, -1);
        hall.record(1, -1, -1);
        hall.number(1);
        hall.none(1);
        hall.make(0, 0, 0);
        hall.make(1, 0, 0);
        hall.make(1, 0, 0);
        hall.isRecord(0, 0, 0);
        hall.add(0, -1, 0);
        hall.add(0, -1, 0);
        hall.compile();
        int[] due = {2, 2, 5, 1, 2, 1, 1, 4, 4, 1, 2};
        // REFUSE, TAKE, MISS, TEST; the MATRICES of the TOP, and of two branches: 3 with the first.
        due[8] = 3;
        for (int what = 0; what <= 10; what++) {
            Due.same("many(" + what + ")", hall.many(what), due[what]);
        }
    }
}
