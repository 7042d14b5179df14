/** Promises 13 to 18. */
public final class CasesAndMatchTest {
    public static void main(String[] args) {
        adding();
        cutting();
        matching();
        taking();
        takingWithoutCases();
        looking();
        binding();
        bindingAfterAFailure();
        Due.end();
    }

    private static void adding() {
        MatchwrightHall hall = new MatchwrightHall();
        hall.type();
        hall.record(1, 0, 1);
        int number = hall.name(0, 2);
        int self = hall.name(1, 1);
        int pair = hall.isRecord(0, number, self);
        int any = hall.any(1);
        Due.same("with a GUARD", hall.add(pair, 2, Integer.MIN_VALUE), 0);
        Due.same("without one", hall.add(pair, -1, 0), 1);
        Due.outOfBounds("no such PATTERN", () -> hall.add(4, -1, 0));
        Due.outOfBounds("PATTERN -1", () -> hall.add(-1, -1, 0));
        Due.badArgument("on another TYPE", () -> hall.add(number, -1, 0));
        Due.badArgument("a GUARD that is on no NUMBER", () -> hall.add(pair, 1, 0));
        Due.badArgument("a GUARD that it has not", () -> hall.add(pair, 0, 0));
        Due.badArgument("a GUARD that an ANY has not", () -> hall.add(any, 2, 0));
        Due.badArgument("GUARD -2", () -> hall.add(pair, -2, 0));
        Due.badArgument("GUARD 4", () -> hall.add(pair, 4, 0));
        Due.badArgument("a number without a GUARD", () -> hall.add(pair, -1, 1));
        Due.same("nothing was changed", hall.many(4), 2);
        for (int number6 = 2; number6 < 6; number6++) {
            Due.same("add()", hall.add(any, -1, 0), number6);
        }
        Due.badState("a 7th", () -> hall.add(any, -1, 0));
        Due.badArgument("a bad 7th", () -> hall.add(any, -1, 1));
        Due.outOfBounds("a 7th of none", () -> hall.add(9, -1, 0));
    }

    private static void cutting() {
        MatchwrightHall hall = new MatchwrightHall();
        hall.type();
        hall.any(0);
        hall.any(1);
        hall.range(0, 1);
        Due.badState("cut() of none", hall::cut);
        hall.add(0, -1, 0);
        hall.add(2, -1, 0);
        Due.same("cut()", hall.cut(), 2);
        Due.same("cut()", hall.cut(), 0);
        Due.badState("cut() of all", hall::cut);
        Due.same("another TYPE without CASES", hall.add(1, -1, 0), 0);
    }

    private static void matching() {
        MatchwrightHall hall = new MatchwrightHall();
        hall.type();
        hall.any(0);
        hall.any(1);
        hall.number(0);
        hall.none(1);
        Due.outOfBounds("no such PATTERN", () -> hall.matches(2, 0));
        Due.outOfBounds("no such VALUE", () -> hall.matches(0, 2));
        Due.outOfBounds("-1", () -> hall.matches(-1, -1));
        Due.badArgument("two TYPES", () -> hall.matches(0, 1));
        Due.badArgument("two TYPES", () -> hall.matches(1, 0));
        Due.same("of one TYPE", hall.matches(0, 0), true);
    }

    private static void taking() {
        MatchwrightHall hall = new MatchwrightHall();
        hall.type();
        hall.record(1, 0, -1);
        hall.record(1, -1, -1);
        hall.number(5);
        hall.number(6);
        hall.make(0, 0, 0);
        hall.make(0, 1, 0);
        hall.make(1, 0, 0);
        hall.none(1);
        hall.name(0, 0);
        hall.isRecord(0, 0, 0);
        hall.any(1);
        hall.isNone(1);
        hall.add(1, 0, 5);
        Due.same("the GUARD does not hold of what is not greater", hall.takes(2), -1);
        Due.same("the GUARD holds", hall.takes(3), 0);
        Due.same("MISSED", hall.takes(4), -1);
        Due.same("REFUSED", hall.takes(5), -2);
        hall.add(1, -1, 0);
        hall.add(2, -1, 0);
        Due.same("the next one", hall.takes(2), 1);
        Due.same("the first one", hall.takes(3), 0);
        Due.same("any", hall.takes(4), 2);
        Due.same("NULL is REFUSED by ANY", hall.takes(5), -2);
        hall.add(3, -1, 0);
        Due.same("NULL is TAKEN by NULL", hall.takes(5), 3);
        Due.outOfBounds("no such VALUE", () -> hall.takes(6));
        Due.outOfBounds("VALUE -1", () -> hall.takes(-1));
        Due.badArgument("CASES on another TYPE", () -> hall.takes(0));
    }

    private static void takingWithoutCases() {
        MatchwrightHall hall = new MatchwrightHall();
        hall.type();
        hall.record(1, -1, -1);
        hall.number(1);
        hall.none(1);
        hall.make(0, 0, 0);
        Due.same("a NUMBER", hall.takes(0), -1);
        Due.same("NULL", hall.takes(1), -2);
        Due.same("a RECORD", hall.takes(2), -1);
        Due.same("looks()", hall.looks(2), 0);
        Due.same("bound()", hall.bound(2, 0), -1);
        Due.badArgument("bound(.., 4)", () -> hall.bound(2, 4));
        Due.same("many(10)", hall.many(10), 0);
    }

    private static void looking() {
        MatchwrightHall hall = new MatchwrightHall();
        hall.type();
        hall.record(1, 0, 0);
        hall.number(1);
        hall.number(7);
        hall.make(0, 0, 0);
        hall.make(0, 1, 0);
        hall.make(0, 1, 1);
        hall.none(1);
        int ones = hall.range(0, 3);
        int sevens = hall.range(6, 9);
        int any = hall.any(0);
        int either = hall.either(ones, any);
        int open = hall.any(1);
        hall.add(open, -1, 0);
        Due.same("ANY looks at nothing", hall.looks(2), 0);
        Due.same("ANY looks at nothing of NULL", hall.looks(5), 0);
        hall.cut();
        hall.add(hall.isRecord(0, ones, ones), -1, 0);
        Due.same("TOP and both FIELDS", hall.looks(2), 3);
        Due.same("up to the first that does not match", hall.looks(3), 2);
        Due.same("a RECORD is tried on NULL", hall.looks(5), 1);
        hall.add(hall.isRecord(0, any, sevens), -1, 0);
        Due.same("a PLACE counts once, one more by the next", hall.looks(3), 3);
        Due.same("not by cases behind", hall.looks(2), 3);
        hall.cut();
        hall.cut();
        hall.add(hall.isRecord(0, any, either), -1, 0);
        Due.same("TOP and a side", hall.looks(4), 2);
        hall.cut();
        hall.add(hall.isRecord(0, any, hall.either(any, ones)), -1, 0);
        Due.same("a side that is ANY first", hall.looks(4), 1);
        Due.outOfBounds("no such VALUE", () -> hall.looks(6));
        Due.outOfBounds("VALUE -1", () -> hall.looks(-1));
        Due.badArgument("CASES on another TYPE", () -> hall.looks(0));
    }

    private static void binding() {
        MatchwrightHall hall = new MatchwrightHall();
        hall.type();
        hall.record(1, 0, 1);
        hall.record(1, 0, -1);
        hall.number(4);
        hall.none(1);
        hall.make(0, 0, 1);
        hall.make(1, 0, 0);
        int left = hall.name(0, 0);
        int right = hall.name(1, 3);
        hall.add(hall.isRecord(0, left, right), -1, 0);
        hall.add(hall.name(1, 2), -1, 0);
        Due.same("NAME 0", hall.bound(2, 0), 0);
        Due.same("NAME 3, to NULL in a FIELD", hall.bound(2, 3), 1);
        Due.same("a NAME of another CASE", hall.bound(2, 2), -1);
        Due.same("a NAME of none", hall.bound(2, 1), -1);
        Due.same("at the TOP", hall.bound(3, 2), 3);
        Due.same("a NAME of the CASE ahead", hall.bound(3, 0), -1);
        Due.same("REFUSED", hall.bound(1, 2), -1);
        Due.outOfBounds("no such VALUE", () -> hall.bound(4, 9));
        Due.badArgument("CASES on another TYPE", () -> hall.bound(0, 0));
        Due.badArgument("NAME -1", () -> hall.bound(2, -1));
        Due.badArgument("NAME 4", () -> hall.bound(2, 4));
    }

    private static void bindingAfterAFailure() {
        MatchwrightHall hall = new MatchwrightHall();
        hall.type();
        hall.record(1, 0, 0);
        hall.number(1);
        hall.number(9);
        hall.make(0, 0, 1);
        int name = hall.name(0, 0);
        int low = hall.range(0, 3);
        int any = hall.any(0);
        int failing = hall.isRecord(0, name, low);
        hall.add(failing, -1, 0);
        hall.add(hall.isRecord(0, any, any), -1, 0);
        Due.same("what a CASE bound that did not match", hall.bound(2, 0), -1);
        hall.cut();
        Due.same("what a CASE bound, if all are MISSED", hall.bound(2, 0), -1);
        hall.cut();
        hall.record(1, 0, -1);
        hall.record(1, 1, 0);
        MatchwrightHall other = new MatchwrightHall();
        other.number(2);
        int guarded = other.name(0, 1);
        other.add(guarded, 1, 2);
        other.add(other.range(0, 9), -1, 0);
        Due.same("a GUARD that does not hold takes nothing", other.takes(0), 1);
        Due.same("and its NAME is not BOUND", other.bound(0, 1), -1);
        MatchwrightHall sides = new MatchwrightHall();
        sides.type();
        sides.record(1, 1, 0);
        sides.number(9);
        sides.none(1);
        sides.make(0, 1, 0);
        int zero = sides.name(1, 0);
        int first = sides.isRecord(0, zero, sides.range(0, 3));
        sides.add(sides.either(first, zero), -1, 0);
        Due.same("the side that matches binds", sides.bound(2, 0), 2);
    }
}
