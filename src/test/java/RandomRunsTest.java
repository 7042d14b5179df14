import java.util.List;
import java.util.Random;

/** Runs of calls that are drawn by a fixed seed, each answer held against Reference. */
public final class RandomRunsTest {
    private static final int RUNS = 700;
    private static final int GRIDS = 300;
    private static int tooMany = 0;
    private static int notCompiled = 0;
    private static final int[] kinds = new int[6];

    private final Random random;
    private final String run;
    private final MatchwrightHall hall = new MatchwrightHall();
    private final Reference reference = new Reference();
    private List<Reference.Val> all = null;

    private RandomRunsTest(long seed) {
        random = new Random(seed);
        run = "run " + seed + ": ";
    }

    public static void main(String[] args) {
        long first = args.length > 0 ? Long.parseLong(args[0]) : 1;
        int runs = args.length > 1 ? Integer.parseInt(args[1]) : RUNS;
        for (long seed = first; seed < first + runs && Due.wrong() < 20; seed++) {
            new RandomRunsTest(seed).go();
        }
        for (long seed = first; seed < first + GRIDS && Due.wrong() < 20; seed++) {
            new RandomRunsTest(seed).goByGrid();
        }
        System.out.println(tooMany + " times too many values, " + notCompiled + " times nothing compiled, nodes: "
                + java.util.Arrays.toString(kinds));
        Due.end();
    }

    private void go() {
        int style = random.nextInt(4);
        tell(1 + random.nextInt(style == 0 ? 2 : 4), 1 + random.nextInt(style == 0 ? 4 : 12));
        for (int i = 0; i < 150; i++) {
            int draw = random.nextInt(100);
            if (draw < 15) {
                value();
            } else if (draw < 35) {
                pattern();
            } else if (draw < 43) {
                addCase();
            } else if (draw < 46) {
                same("cut()", hall::cut, reference::cut);
            } else if (draw < 52) {
                compile();
            } else if (draw < 54) {
                tell(random.nextInt(2), random.nextInt(2));
            } else {
                ask();
            }
        }
        compile();
        askAll();
    }

    private void same(String call, Due.Call mine, Due.Call theirs) {
        Due.sameText(run + call, Due.told(mine), Due.told(theirs));
    }

    private int below(int count) {
        return random.nextInt(30) == 0 ? random.nextInt(count + 3) - 1 : count == 0 ? 0 : random.nextInt(count);
    }

    private void tell(int types, int records) {
        for (int i = 0; i < types; i++) {
            same("type()", hall::type, reference::type);
        }
        for (int i = 0; i < records; i++) {
            int type = random.nextInt(20) == 0 ? below(reference.types) : 1 + random.nextInt(Math.max(1, reference.types - 1));
            int fields = random.nextInt(3);
            int first = fields < 1 ? -1 : below(reference.types);
            int second = fields < 2 ? -1 : below(reference.types);
            same("record(" + type + ", " + first + ", " + second + ")",
                    () -> hall.record(type, first, second), () -> reference.record(type, first, second));
        }
    }

    private int drawNumber() {
        return random.nextInt(20) == 0 ? random.nextInt(203) - 101 : random.nextInt(13) - 3;
    }

    private int valueOf(int type) {
        for (int tries = 0; tries < 20 && !reference.vals.isEmpty(); tries++) {
            int drawn = random.nextInt(reference.vals.size());
            if (reference.vals.get(drawn).type == type) {
                return drawn;
            }
        }
        return below(reference.vals.size());
    }

    private int patternOn(int type) {
        for (int tries = 0; tries < 30 && !reference.pats.isEmpty(); tries++) {
            int drawn = random.nextInt(reference.pats.size());
            if (reference.pats.get(drawn).type == type) {
                return drawn;
            }
        }
        return below(reference.pats.size());
    }

    private void value() {
        int draw = random.nextInt(10);
        if (draw < 3) {
            int number = drawNumber();
            same("number(" + number + ")", () -> hall.number(number), () -> reference.number(number));
        } else if (draw < 5) {
            int type = below(reference.types);
            same("none(" + type + ")", () -> hall.none(type), () -> reference.none(type));
        } else {
            int record = below(reference.recs.size());
            int[] fields = record >= 0 && record < reference.recs.size() ? reference.recs.get(record).fields : new int[0];
            int first = fields.length > 0 ? valueOf(fields[0]) : random.nextInt(20) == 0 ? 1 : 0;
            int second = fields.length > 1 ? valueOf(fields[1]) : random.nextInt(20) == 0 ? 1 : 0;
            same("make(" + record + ", " + first + ", " + second + ")",
                    () -> hall.make(record, first, second), () -> reference.make(record, first, second));
        }
    }

    private void pattern() {
        int draw = random.nextInt(20);
        if (draw < 2) {
            int type = below(reference.types);
            same("any(" + type + ")", () -> hall.any(type), () -> reference.any(type));
        } else if (draw < 5) {
            int type = random.nextBoolean() ? 0 : below(reference.types);
            int name = random.nextInt(30) == 0 ? 4 : random.nextInt(4);
            same("name(" + type + ", " + name + ")", () -> hall.name(type, name), () -> reference.name(type, name));
        } else if (draw < 7) {
            int low = drawNumber();
            int high = low + random.nextInt(6) - (random.nextInt(20) == 0 ? 3 : 0);
            same("range(" + low + ", " + high + ")", () -> hall.range(low, high), () -> reference.range(low, high));
        } else if (draw < 8) {
            int type = below(reference.types);
            same("isNone(" + type + ")", () -> hall.isNone(type), () -> reference.isNone(type));
        } else if (draw < 16) {
            int record = below(reference.recs.size());
            int[] fields = record >= 0 && record < reference.recs.size() ? reference.recs.get(record).fields : new int[0];
            int first = fields.length > 0 ? patternOn(fields[0]) : random.nextInt(20) == 0 ? 1 : 0;
            int second = fields.length > 1 ? patternOn(fields[1]) : random.nextInt(20) == 0 ? 1 : 0;
            same("isRecord(" + record + ", " + first + ", " + second + ")",
                    () -> hall.isRecord(record, first, second), () -> reference.isRecord(record, first, second));
        } else {
            int one = below(reference.pats.size());
            int other = one >= 0 && one < reference.pats.size() ? patternOn(reference.pats.get(one).type) : 0;
            same("either(" + one + ", " + other + ")",
                    () -> hall.either(one, other), () -> reference.either(one, other));
        }
    }

    private void addCase() {
        int pattern = reference.cases.isEmpty() ? wide() : patternOn(reference.cases.get(0).pattern.type);
        int guard = random.nextInt(3) == 0 ? random.nextInt(5) : -1;
        int number = guard == -1 ? random.nextInt(25) == 0 ? 1 : 0 : random.nextInt(8) - 2;
        if (pattern >= 0 && pattern < reference.pats.size() && guard != -1) {
            for (int name = 0; name < 4; name++) {
                Integer on = reference.pats.get(pattern).names().get(name);
                guard = on != null && on == 0 && random.nextInt(10) != 0 ? name : guard;
            }
        }
        int asked = guard;
        same("add(" + pattern + ", " + asked + ", " + number + ")",
                () -> hall.add(pattern, asked, number), () -> reference.add(pattern, asked, number));
    }

    private int wide() {
        int best = below(reference.pats.size());
        for (int tries = 0; tries < 4 && !reference.pats.isEmpty(); tries++) {
            int drawn = random.nextInt(reference.pats.size());
            if (best < 0 || best >= reference.pats.size()
                    || reference.pats.get(drawn).size() > reference.pats.get(best).size()) {
                best = drawn;
            }
        }
        return best;
    }

    private void compile() {
        same("compile()", hall::compile, reference::compile);
        if (!reference.cases.isEmpty() && reference.compiled != null) {
            for (Reference.Node node : reference.compiled.all) {
                kinds[node.kind]++;
            }
        }
        if (Due.told(hall::compile).equals("-1")) {
            notCompiled++;
        }
    }

    /** Cases that need about as many matrices as are allowed. */
    private void goByGrid() {
        same("type()", hall::type, reference::type);
        same("record(1, 1, 1)", () -> hall.record(1, 1, 1), () -> reference.record(1, 1, 1));
        same("record(1, 0, 0)", () -> hall.record(1, 0, 0), () -> reference.record(1, 0, 0));
        same("any(1)", () -> hall.any(1), () -> reference.any(1));
        for (int i = 0; i < 6; i++) {
            int left = drawRange();
            int right = drawRange();
            same("inner", () -> hall.isRecord(1, left, right), () -> reference.isRecord(1, left, right));
            int inner = reference.pats.size() - 1;
            int first = random.nextBoolean() ? inner : 0;
            int second = inner - first;
            same("outer", () -> hall.isRecord(0, first, second), () -> reference.isRecord(0, first, second));
            same("add()", () -> hall.add(inner + 1, -1, 0), () -> reference.add(inner + 1, -1, 0));
            compile();
            same("nodesBySmallest()", hall::nodesBySmallest, reference::nodesBySmallest);
        }
        for (int what = 7; what <= 9; what++) {
            int asked = what;
            same("many(" + what + ")", () -> hall.many(asked), () -> reference.many(asked, all));
        }
        for (int node = 0; node < reference.compiled.all.size(); node++) {
            for (int what = 0; what <= 3; what++) {
                Due.same(run + "ofNode(" + node + ", " + what + ")",
                        hall.ofNode(node, what), reference.ofNode(node, what));
            }
            for (int branch = 0; branch < reference.ofNode(node, 2); branch++) {
                for (int what = 0; what <= 1; what++) {
                    Due.same(run + "branch(" + node + ", " + branch + ", " + what + ")",
                            hall.branch(node, branch, what), reference.branch(node, branch, what));
                }
            }
        }
    }

    private int drawRange() {
        int low = random.nextInt(20);
        int high = low + random.nextInt(20);
        same("range()", () -> hall.range(low, high), () -> reference.range(low, high));
        return reference.pats.size() - 1;
    }

    private void ask() {
        int value = below(reference.vals.size());
        int pattern = value >= 0 && value < reference.vals.size() ? patternOn(reference.vals.get(value).type) : 0;
        int name = random.nextInt(20) == 0 ? 4 : random.nextInt(4);
        int number = below(reference.cases.size());
        int node = below(reference.compiled == null ? 0 : reference.compiled.all.size());
        int what = random.nextInt(5);
        int branch = random.nextInt(4);
        same("matches(" + pattern + ", " + value + ")", () -> hall.matches(pattern, value) ? 1 : 0,
                () -> reference.matches(pattern, value));
        same("takes(" + value + ")", () -> hall.takes(value), () -> reference.takes(value));
        same("looks(" + value + ")", () -> hall.looks(value), () -> reference.looks(value));
        same("bound(" + value + ", " + name + ")", () -> hall.bound(value, name), () -> reference.bound(value, name));
        same("down(" + value + ")", () -> hall.down(value), () -> reference.down(value));
        same("tests(" + value + ")", () -> hall.tests(value), () -> reference.tests(value));
        same("takesWithout(" + number + ", " + value + ")",
                () -> hall.takesWithout(number, value), () -> reference.takesWithout(number, value));
        same("ofNode(" + node + ", " + what + ")", () -> hall.ofNode(node, what), () -> reference.ofNode(node, what));
        same("branch(" + node + ", " + branch + ", " + what % 3 + ")",
                () -> hall.branch(node, branch, what % 3), () -> reference.branch(node, branch, what % 3));
        if (random.nextInt(8) == 0) {
            askAll();
        }
    }

    private void askAll() {
        Due.same(run + "meanTests()", hall.meanTests(), reference.meanTests());
        same("nodesBySmallest()", hall::nodesBySmallest, reference::nodesBySmallest);
        all = reference.cases.isEmpty() ? List.of() : reference.universe();
        if (all == null) {
            tooMany++;
            return;
        }
        for (int what = 0; what <= 11; what++) {
            int asked = what;
            same("many(" + what + ")", () -> hall.many(asked), () -> reference.many(asked, all));
        }
        Reference.Val missing = reference.cases.isEmpty() ? null : reference.missing(-1, all);
        for (int place = 1; place <= 63; place++) {
            Due.same(run + "missing(" + place + ")", hall.missing(place), Reference.told(missing, place));
        }
        for (int number = 0; number < reference.cases.size(); number++) {
            Due.same(run + "isReached(" + number + ")", hall.isReached(number), reference.reached(number, all));
            Due.same(run + "missesWithout(" + number + ")", hall.missesWithout(number),
                    reference.missing(number, all) != null);
        }
        Due.same(run + "digest()", hall.digest(), reference.digest(all));
    }
}
