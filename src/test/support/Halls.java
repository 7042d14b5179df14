/** Halls that several tests begin with, and what is told of a hall as one text. */
final class Halls {
    private Halls() {
    }

    /**
     * A hall with some of everything: TYPES 0 to 2, RECORDS 0 (NUMBER, 1), 1 () on 1 and 2 (2) on
     * 2; VALUES 0 a NUMBER, 1 a NULL of 1, 2 the RECORD 0, 3 the RECORD 1; PATTERNS 0 a NAME 0 on
     * NUMBER, 1 a NAME 3 on 1, 2 the RECORD 0 of these, 3 NULL on 1, 4 ANY on NUMBER; two CASES,
     * and a tree of them.
     */
    static MatchwrightHall some() {
        MatchwrightHall hall = new MatchwrightHall();
        hall.type();
        hall.type();
        hall.record(1, 0, 1);
        hall.record(1, -1, -1);
        hall.record(2, 2, -1);
        hall.number(7);
        hall.none(1);
        hall.make(0, 0, 1);
        hall.make(1, 0, 0);
        hall.name(0, 0);
        hall.name(1, 3);
        hall.isRecord(0, 0, 1);
        hall.isNone(1);
        hall.any(0);
        hall.add(2, 0, 6);
        hall.add(3, -1, 0);
        hall.compile();
        return hall;
    }

    /** The same as some() has, read a second time. */
    static Reference someOfReference() {
        Reference reference = new Reference();
        reference.type();
        reference.type();
        reference.record(1, 0, 1);
        reference.record(1, -1, -1);
        reference.record(2, 2, -1);
        reference.number(7);
        reference.none(1);
        reference.make(0, 0, 1);
        reference.make(1, 0, 0);
        reference.name(0, 0);
        reference.name(1, 3);
        reference.isRecord(0, 0, 1);
        reference.isNone(1);
        reference.any(0);
        reference.add(2, 0, 6);
        reference.add(3, -1, 0);
        reference.compile();
        return reference;
    }

    /** As some(), with 5 TYPES, 12 RECORDS, 40 VALUES, 40 PATTERNS and 6 CASES. */
    static MatchwrightHall full() {
        MatchwrightHall hall = some();
        for (int type = 3; type < 5; type++) {
            hall.type();
        }
        for (int record = 3; record < 12; record++) {
            hall.record(2, -1, -1);
        }
        for (int value = 4; value < 40; value++) {
            hall.number(value);
        }
        for (int pattern = 5; pattern < 40; pattern++) {
            hall.any(0);
        }
        for (int number = 2; number < 6; number++) {
            hall.add(2, 0, number);
        }
        hall.compile();
        return hall;
    }

    /** What a hall tells of all that it has, and of what its first PATTERNS match. */
    static String told(MatchwrightHall hall) {
        StringBuilder told = new StringBuilder();
        told.append(hall.digest()).append(' ').append(hall.meanTests());
        for (int pattern = 0; pattern < 5; pattern++) {
            for (int value = 0; value < 4; value++) {
                int one = pattern;
                int other = value;
                // true, false, or I of the exception, if there are none or they are not of one TYPE.
                told.append(' ').append(Due.told(() -> hall.matches(one, other)).charAt(0));
            }
        }
        return told.toString();
    }
}
