import java.util.ArrayList;
import java.util.List;
import java.util.Random;

/**
 * Small worlds whose PATTERNS are drawn whole, from the TOP down, so that CASES overlap in deep
 * FIELDS and NAMES stand at several PLACES; RandomRunsTest, which draws from what is there, seldom
 * makes such. All answers are held against Reference, after each CASE that is added or cut.
 */
public final class DrawnCasesTest {
    // Among these is a run in which one CASE asks its GUARD at two PLACES, ahead of one NODE (5315).
    private static final int FIRST = 5001;
    private static final int RUNS = 600;
    private static final int MAX_PARTS = 6;
    private static final int[] kinds = new int[6];
    private static int missed = 0;

    private final Random random;
    private final String run;
    private final MatchwrightHall hall = new MatchwrightHall();
    private final Reference reference = new Reference();
    private int partsLeft = 0;
    private List<Integer> namesLeft = new ArrayList<>();
    private Reference.Val gap = null;

    private DrawnCasesTest(long seed) {
        random = new Random(seed);
        run = "drawn run " + seed + ": ";
    }

    public static void main(String[] args) {
        long first = args.length > 0 ? Long.parseLong(args[0]) : FIRST;
        int runs = args.length > 1 ? Integer.parseInt(args[1]) : RUNS;
        for (long seed = first; seed < first + runs && Due.wrong() < 20; seed++) {
            new DrawnCasesTest(seed).go();
        }
        System.out.println("something missing " + missed + " times, nodes: " + java.util.Arrays.toString(kinds));
        Due.end();
    }

    private int same(String call, Due.Call mine, Due.Call theirs) {
        String answer = Due.told(theirs);
        Due.sameText(run + call, Due.told(mine), answer);
        return answer.endsWith("Exception") ? -1 : Integer.parseInt(answer);
    }

    private void go() {
        world();
        values();
        int top = random.nextInt(8) == 0 ? 0 : 1;
        for (int i = 0; i < 9; i++) {
            if (random.nextInt(6) == 0) {
                same("cut()", hall::cut, reference::cut);
            } else {
                addCase(top);
            }
            if (random.nextInt(10) == 0) {
                record(1 + random.nextInt(reference.types - 1));
            }
            if (random.nextInt(3) != 0) {
                same("compile()", hall::compile, reference::compile);
            }
            lookAtAll();
        }
    }

    private void world() {
        int types = 1 + random.nextInt(2);
        for (int i = 0; i < types; i++) {
            same("type()", hall::type, reference::type);
        }
        for (int type = 1; type <= types; type++) {
            int records = 1 + random.nextInt(type == 1 ? 2 : 3);
            for (int i = 0; i < records; i++) {
                record(type);
            }
        }
    }

    private void record(int type) {
        int first = random.nextInt(4) == 0 ? -1 : random.nextInt(reference.types);
        int second = first == -1 || random.nextInt(3) == 0 ? -1 : random.nextInt(reference.types);
        same("record(" + type + ", " + first + ", " + second + ")",
                () -> hall.record(type, first, second), () -> reference.record(type, first, second));
    }

    private void values() {
        for (int i = 0; i < 4; i++) {
            int number = i * 3 - 2;
            same("number(" + number + ")", () -> hall.number(number), () -> reference.number(number));
        }
        for (int type = 1; type < reference.types; type++) {
            int asked = type;
            same("none(" + type + ")", () -> hall.none(asked), () -> reference.none(asked));
        }
        while (reference.vals.size() < 40) {
            int record = random.nextInt(reference.recs.size());
            int[] fields = reference.recs.get(record).fields;
            int first = fields.length > 0 ? valueOf(fields[0]) : 0;
            int second = fields.length > 1 ? valueOf(fields[1]) : 0;
            same("make(" + record + ", " + first + ", " + second + ")",
                    () -> hall.make(record, first, second), () -> reference.make(record, first, second));
        }
    }

    private int valueOf(int type) {
        int drawn = random.nextInt(reference.vals.size());
        while (reference.vals.get(drawn).type != type) {
            drawn = random.nextInt(reference.vals.size());
        }
        return drawn;
    }

    private void addCase(int top) {
        partsLeft = MAX_PARTS;
        List<Integer> names = new ArrayList<>();
        for (int name = 0; name < 4; name++) {
            if (random.nextInt(3) == 0) {
                names.add(name);
            }
        }
        namesLeft = names;
        int pattern = gap != null && random.nextInt(3) != 0 ? drawFor(gap, 3) : draw(top, 3);
        if (pattern == -1) {
            return;
        }
        int guard = -1;
        for (int name = 0; name < 4; name++) {
            Integer on = reference.pats.get(pattern).names().get(name);
            guard = on != null && on == 0 && random.nextInt(4) != 0 ? name : guard;
        }
        int asked = guard;
        int number = guard == -1 ? 0 : random.nextInt(8) - 2;
        same("add(" + pattern + ", " + asked + ", " + number + ")",
                () -> hall.add(pattern, asked, number), () -> reference.add(pattern, asked, number));
    }

    /** A PATTERN on the type, of what is left of parts and names; -1, if there are 40. */
    private int draw(int type, int deep) {
        partsLeft--;
        if (partsLeft >= 2 && random.nextInt(4) == 0) {
            return drawEither(type, deep);
        }
        if (!namesLeft.isEmpty() && random.nextInt(type == 0 ? 2 : 6) == 0) {
            int name = namesLeft.remove(0);
            return same("name(" + type + ", " + name + ")", () -> hall.name(type, name), () -> reference.name(type, name));
        }
        int record = recordOf(type);
        if (record != -1 && random.nextInt(deep == 3 ? 12 : 4) != 0) {
            int[] fields = reference.recs.get(record).fields;
            if (fields.length == 0 || deep > 1 && partsLeft >= fields.length) {
                return drawRecord(record, fields, deep);
            }
        }
        int draw = random.nextInt(4);
        if (type != 0 && draw == 0) {
            return same("isNone(" + type + ")", () -> hall.isNone(type), () -> reference.isNone(type));
        }
        if (type == 0 && draw != 0) {
            int low = random.nextInt(4) == 0 ? -99 : random.nextInt(9) - 2;
            int high = random.nextInt(4) == 0 ? 99 : low + random.nextInt(5);
            return same("range(" + low + ", " + high + ")", () -> hall.range(low, high), () -> reference.range(low, high));
        }
        return same("any(" + type + ")", () -> hall.any(type), () -> reference.any(type));
    }

    /** A PATTERN that matches the value, so that the next one that is missing lies deeper. */
    private int drawFor(Reference.Val val, int deep) {
        partsLeft--;
        int fields = val.fields.size();
        if (deep < 3 && random.nextInt(5) < 2 || fields > 0 && deep == 1 || fields > partsLeft) {
            return same("any(" + val.type + ")", () -> hall.any(val.type), () -> reference.any(val.type));
        }
        if (val.type == 0) {
            int high = Math.min(99, val.number + (random.nextBoolean() ? 100 : random.nextInt(200)));
            return same("range(" + val.number + ", " + high + ")",
                    () -> hall.range(val.number, high), () -> reference.range(val.number, high));
        }
        if (val.isNull()) {
            return same("isNone(" + val.type + ")", () -> hall.isNone(val.type), () -> reference.isNone(val.type));
        }
        int[] drawn = {0, 0};
        for (int f = 0; f < fields; f++) {
            int aside = fields - 1 - f;
            partsLeft -= aside;
            drawn[f] = drawFor(val.fields.get(f), deep - 1);
            partsLeft += aside;
        }
        return keepRecord(val.rec.number, drawn);
    }

    private int recordOf(int type) {
        List<Integer> of = new ArrayList<>();
        for (Reference.Rec rec : reference.recs) {
            if (rec.type == type) {
                of.add(rec.number);
            }
        }
        return of.isEmpty() ? -1 : of.get(random.nextInt(of.size()));
    }

    private int drawRecord(int record, int[] fields, int deep) {
        int[] drawn = {0, 0};
        for (int f = 0; f < fields.length; f++) {
            // What the other field needs at least is put aside.
            int aside = fields.length - 1 - f;
            partsLeft -= aside;
            drawn[f] = draw(fields[f], deep - 1);
            partsLeft += aside;
        }
        return keepRecord(record, drawn);
    }

    private int keepRecord(int record, int[] drawn) {
        return drawn[0] == -1 || drawn[1] == -1 ? -1
                : same("isRecord(" + record + ", " + drawn[0] + ", " + drawn[1] + ")",
                () -> hall.isRecord(record, drawn[0], drawn[1]), () -> reference.isRecord(record, drawn[0], drawn[1]));
    }

    /** Both sides may take the same names; those that do not come out alike are refused. */
    private int drawEither(int type, int deep) {
        List<Integer> names = new ArrayList<>(namesLeft);
        partsLeft--;
        int one = draw(type, deep);
        partsLeft++;
        List<Integer> left = namesLeft;
        int parts = partsLeft;
        for (int tries = 0; tries < 4; tries++) {
            namesLeft = new ArrayList<>(names);
            partsLeft = parts;
            int other = draw(type, deep);
            if (one == -1 || other == -1) {
                return -1;
            }
            int made = same("either(" + one + ", " + other + ")",
                    () -> hall.either(one, other), () -> reference.either(one, other));
            if (made != -1) {
                return made;
            }
        }
        namesLeft = left;
        return one;
    }

    private void lookAtAll() {
        List<Reference.Val> all = reference.cases.isEmpty() ? List.of() : reference.universe();
        gap = null;
        if (all == null) {
            return;
        }
        Reference.Val missing = reference.cases.isEmpty() ? null : reference.missing(-1, all);
        missed += missing == null ? 0 : 1;
        gap = missing;
        for (int place = 1; place <= 63; place++) {
            Due.same(run + "missing(" + place + ")", hall.missing(place), Reference.told(missing, place));
        }
        for (int number = 0; number < reference.cases.size(); number++) {
            Due.same(run + "isReached(" + number + ")", hall.isReached(number), reference.reached(number, all));
            Due.same(run + "missesWithout(" + number + ")", hall.missesWithout(number),
                    reference.missing(number, all) != null);
        }
        for (int i = 0; reference.compiled != null && i < reference.compiled.all.size(); i++) {
            kinds[reference.compiled.all.get(i).kind]++;
        }
        Due.same(run + "meanTests()", hall.meanTests(), reference.meanTests());
        Due.same(run + "digest()", hall.digest(), reference.digest(all));
    }
}
