/** Promises 28 to 31. */
public final class WhatWouldBeTest {
    public static void main(String[] args) {
        takingWithout();
        missingWithout();
        smallest();
        smallestOfTooMany();
        digests();
        Due.end();
    }

    private static void takingWithout() {
        MatchwrightHall hall = new MatchwrightHall();
        hall.type();
        hall.record(1, -1, -1);
        hall.make(0, 0, 0);
        hall.none(1);
        hall.number(0);
        int leaf = hall.isRecord(0, 0, 0);
        Due.outOfBounds("no such CASE", () -> hall.takesWithout(0, 0));
        hall.add(leaf, -1, 0);
        Due.same("without the only one", hall.takesWithout(0, 0), -1);
        Due.same("NULL without the only one", hall.takesWithout(0, 1), -2);
        Due.badArgument("another TYPE, also without the only one", () -> hall.takesWithout(0, 2));
        hall.add(hall.isNone(1), -1, 0);
        hall.add(hall.any(1), -1, 0);
        Due.same("numbers as they are now", hall.takesWithout(0, 0), 2);
        Due.same("without another", hall.takesWithout(2, 0), 0);
        Due.same("NULL", hall.takesWithout(1, 1), -2);
        Due.same("nothing is changed", hall.takes(0), 0);
        Due.outOfBounds("CASE 3", () -> hall.takesWithout(3, 0));
        Due.outOfBounds("CASE -1", () -> hall.takesWithout(-1, 0));
        Due.outOfBounds("no such VALUE", () -> hall.takesWithout(0, 3));
        Due.outOfBounds("VALUE -1", () -> hall.takesWithout(0, -1));
        Due.badArgument("another TYPE", () -> hall.takesWithout(0, 2));
    }

    private static void missingWithout() {
        MatchwrightHall hall = new MatchwrightHall();
        Due.outOfBounds("without CASES", () -> hall.missesWithout(0));
        hall.add(hall.range(0, 5), -1, 0);
        Due.same("the only one", hall.missesWithout(0), false);
        int name = hall.name(0, 0);
        hall.add(name, 0, 3);
        Due.same("all others have GUARDS", hall.missesWithout(0), true);
        hall.add(name, -1, 0);
        Due.same("another has it all", hall.missesWithout(0), false);
        Due.same("a GUARD", hall.missesWithout(1), false);
        Due.same("the one that has it all", hall.missesWithout(2), true);
        Due.outOfBounds("CASE 3", () -> hall.missesWithout(3));
        Due.outOfBounds("CASE -1", () -> hall.missesWithout(-1));
        Due.same("nothing is changed", hall.many(6), 0);
        MatchwrightHall bare = new MatchwrightHall();
        bare.type();
        bare.add(bare.isNone(1), -1, 0);
        bare.add(bare.isNone(1), -1, 0);
        Due.same("a TYPE without RECORDS", bare.missesWithout(0), false);
    }

    private static void smallest() {
        MatchwrightHall hall = new MatchwrightHall();
        Due.same("without CASES", hall.nodesBySmallest(), -1);
        hall.type();
        hall.record(1, 0, 0);
        int any = hall.any(0);
        int low = hall.range(0, 3);
        int high = hall.range(50, 99);
        hall.add(hall.isRecord(0, low, low), -1, 0);
        hall.add(hall.isRecord(0, any, high), -1, 0);
        hall.add(hall.isRecord(0, any, low), -1, 0);
        // By 3: REFUSE, MISS, TAKE2, TAKE0, TEST2, TAKE1, TEST3, NEW, TEST1. By 2: REFUSE, MISS,
        // TAKE2, TAKE1, TEST3 of 1 and 2, TAKE0, TEST3 of all, TEST2, NEW, TEST1.
        Due.same("by the greatest WEIGHT", hall.compile(), 9);
        Due.same("by the smallest PLACE", hall.nodesBySmallest(), 10);
        Due.same("nothing is changed", hall.many(7), 9);
        MatchwrightHall other = new MatchwrightHall();
        other.type();
        other.record(1, 0, 0);
        int all = other.any(0);
        int some = other.range(0, 3);
        other.add(other.isRecord(0, all, some), -1, 0);
        other.add(other.isRecord(0, some, all), -1, 0);
        // WEIGHT 0 at PLACE 2: its first ROW is OPEN there.
        Due.same("with a WEIGHT above 0", other.nodesBySmallest(), other.compile());
    }

    private static void smallestOfTooMany() {
        MatchwrightHall hall = TreeTest.grid(TreeTest.WORKS_300);
        int nodes = hall.compile();
        Due.same("compiled", nodes > 0, true);
        Due.same("by the smallest PLACE alike or less", hall.nodesBySmallest() != 0, true);
        MatchwrightHall more = TreeTest.grid("L0,19,0,19 R1,18,1,18 L2,17,2,17 R3,16,3,16 L4,15,4,15 R5,14,5,14");
        Due.same("too many", more.nodesBySmallest(), -1);
    }

    private static void digests() {
        MatchwrightHall hall = new MatchwrightHall();
        Due.same("of a new object", hall.digest(), digest(hall));
        hall.type();
        hall.record(1, 0, 1);
        hall.record(1, -1, -1);
        hall.number(2);
        hall.number(7);
        hall.none(1);
        hall.make(1, 0, 0);
        hall.make(0, 0, 3);
        hall.make(0, 1, 2);
        Due.same("of values", hall.digest(), digest(hall));
        int name = hall.name(0, 2);
        int any = hall.any(1);
        int low = hall.range(0, 3);
        hall.add(hall.isRecord(0, name, any), 2, 5);
        hall.add(hall.isRecord(0, low, hall.isRecord(1, 0, 0)), -1, 0);
        hall.add(hall.isNone(1), -1, 0);
        Due.same("of cases", hall.digest(), digest(hall));
        hall.compile();
        Due.same("of a tree", hall.digest(), digest(hall));
        while (hall.many(4) > 0) {
            hall.cut();
        }
        hall.add(low, -1, 0);
        Due.same("of a tree on another TYPE", hall.digest(), digest(hall));
        long before = hall.digest();
        hall.number(3);
        Due.same("a VALUE more is another digest", hall.digest() != before, true);
    }

    private static long digest(MatchwrightHall hall) {
        long d = 58142;
        for (int what = 0; what <= 10; what++) {
            d = d * 31 + hall.many(what);
        }
        for (int value = 0; value < hall.many(2); value++) {
            int asked = value;
            String takes = Due.told(() -> hall.takes(asked));
            if (hall.many(4) > 0 && !takes.startsWith("I")) {
                d = (d * 31 + hall.takes(value)) * 31 + hall.looks(value);
                for (int name = 0; name <= 3; name++) {
                    d = d * 31 + hall.bound(value, name);
                }
            }
        }
        for (int value = 0; value < hall.many(2); value++) {
            int asked = value;
            if (!Due.told(() -> hall.down(asked)).startsWith("I")) {
                d = (d * 31 + hall.down(value)) * 31 + hall.tests(value);
            }
        }
        for (int node = 0; node < hall.many(7); node++) {
            for (int what = 0; what <= 3; what++) {
                d = d * 31 + hall.ofNode(node, what);
            }
            for (int branch = 0; branch < hall.ofNode(node, 2); branch++) {
                d = (d * 31 + hall.branch(node, branch, 0)) * 31 + hall.branch(node, branch, 1);
            }
        }
        for (int number = 0; number < hall.many(4); number++) {
            d = d * 31 + (hall.isReached(number) ? 1 : 0);
            d = d * 31 + (hall.missesWithout(number) ? 1 : 0);
        }
        for (int place = 1; place <= 15; place++) {
            d = d * 31 + hall.missing(place);
        }
        return d * 31 + hall.nodesBySmallest();
    }
}
