import java.util.Arrays;

/** A compiler of patterns: ../shared/DOC.md says what each call answers. */
public final class MatchwrightHall {
    private static final int NONE = -1;

    private static final int MAX_TYPES = 5;
    private static final int MAX_RECORDS = 12;
    private static final int MAX_VALUES = 40;
    private static final int MAX_PATTERNS = 40;
    private static final int MAX_CASES = 6;
    private static final int MAX_DEEP = 3;
    private static final int MAX_PARTS = 6;
    private static final int MAX_MATRICES = 300;
    private static final int NAMES = 4;
    private static final int LEAST = -99;
    private static final int GREATEST = 99;

    private static final int NUMBER = 0;
    private static final int TOP = 1;
    // Patterns are at most 3 deep, so that none stands at a place above 7.
    private static final int PLACES = 8;
    private static final int LAST_ASKED_PLACE = 63;
    private static final int LAST_DIGESTED_PLACE = 15;

    private static final int ANY = 0;
    private static final int NAME = 1;
    private static final int RANGE = 2;
    private static final int NULL = 3;
    private static final int RECORD = 4;
    private static final int EITHER = 5;
    // What stands in a matrix for a field of an open row: it has no number of its own.
    private static final int ANYTHING = -1;

    private static final int MISSED = -1;
    private static final int REFUSED = -2;
    private static final int UNKNOWN = -3;

    private static final int MISS = 0;
    private static final int TAKE = 1;
    private static final int ASK = 2;
    private static final int TEST = 3;
    private static final int REFUSE = 4;
    private static final int NEW = 5;

    private static final int FOR_NULL = -1;
    private static final int FOR_OTHERS = -2;
    private static final int FOR_NOT_HELD = -3;

    private final Records records;
    private final Values values;
    private final Patterns patterns;
    private final Cases cases;
    private final Trial trial;
    private final Compiler compiler;
    private final Search search;
    private Tree tree;
    private Tree spare;

    public MatchwrightHall() {
        records = new Records();
        values = new Values();
        patterns = new Patterns();
        cases = new Cases();
        trial = new Trial(values, patterns, cases);
        Level top = new Level(patterns, records, null);
        for (int more = 1; more < Level.LEVELS; more++) {
            top = new Level(patterns, records, top);
        }
        compiler = new Compiler(records, patterns, cases, top);
        search = new Search(records, patterns, cases, top);
        tree = new Tree();
        spare = new Tree();
    }

    // ---- types and values

    public int type() throws IllegalStateException {
        if (records.types >= MAX_TYPES) {
            throw new IllegalStateException("there are 5 TYPES");
        }
        records.types++;
        return records.types - 1;
    }

    public int record(int type, int first, int second)
            throws IndexOutOfBoundsException, IllegalArgumentException, IllegalStateException {
        needType(type);
        if (type == NUMBER || !records.isTypeOrNone(first) || !records.isTypeOrNone(second)) {
            throw new IllegalArgumentException("NUMBER has no RECORDS, and a FIELD needs a TYPE");
        }
        if (first == NONE && second != NONE) {
            throw new IllegalArgumentException("a second FIELD without a first one");
        }
        if (records.count >= MAX_RECORDS) {
            throw new IllegalStateException("there are 12 RECORDS");
        }
        return records.put(type, first, second);
    }

    public int number(int number) throws IllegalArgumentException, IllegalStateException {
        if (number < LEAST || number > GREATEST) {
            throw new IllegalArgumentException("the number is not -99 to 99");
        }
        needRoomForValue();
        return values.putNumber(number);
    }

    public int none(int type)
            throws IndexOutOfBoundsException, IllegalArgumentException, IllegalStateException {
        needSealed(type);
        needRoomForValue();
        return values.put(type, NONE, NONE, NONE);
    }

    public int make(int record, int first, int second)
            throws IndexOutOfBoundsException, IllegalArgumentException, IllegalStateException {
        int firstType = records.fieldType(record, 0);
        int secondType = records.fieldType(record, 1);
        if (!records.has(record) || firstType != NONE && !values.has(first)
                || secondType != NONE && !values.has(second)) {
            throw new IndexOutOfBoundsException("no such RECORD, or VALUE for a FIELD");
        }
        if (!suits(firstType, first, values.typeOf(first))
                || !suits(secondType, second, values.typeOf(second))) {
            throw new IllegalArgumentException("a VALUE does not suit its FIELD");
        }
        needRoomForValue();
        return values.put(records.typeOf(record), record,
                firstType == NONE ? NONE : first, secondType == NONE ? NONE : second);
    }

    // ---- patterns and cases

    public int any(int type) throws IndexOutOfBoundsException, IllegalStateException {
        needType(type);
        needRoomForPattern();
        return patterns.put(ANY, type, NONE, NONE, NONE);
    }

    public int name(int type, int name)
            throws IndexOutOfBoundsException, IllegalArgumentException, IllegalStateException {
        needType(type);
        needName(name);
        needRoomForPattern();
        return patterns.put(NAME, type, name, NONE, NONE);
    }

    public int range(int low, int high) throws IllegalArgumentException, IllegalStateException {
        if (low < LEAST || low > GREATEST || high < low || high > GREATEST) {
            throw new IllegalArgumentException("low is not -99 to 99, or high not low to 99");
        }
        needRoomForPattern();
        return patterns.putRange(low, high);
    }

    public int isNone(int type)
            throws IndexOutOfBoundsException, IllegalArgumentException, IllegalStateException {
        needSealed(type);
        needRoomForPattern();
        return patterns.put(NULL, type, NONE, NONE, NONE);
    }

    public int isRecord(int record, int first, int second)
            throws IndexOutOfBoundsException, IllegalArgumentException, IllegalStateException {
        int firstType = records.fieldType(record, 0);
        int secondType = records.fieldType(record, 1);
        if (!records.has(record) || firstType != NONE && !patterns.has(first)
                || secondType != NONE && !patterns.has(second)) {
            throw new IndexOutOfBoundsException("no such RECORD, or PATTERN for a FIELD");
        }
        if (!suits(firstType, first, patterns.typeOf(first))
                || !suits(secondType, second, patterns.typeOf(second))) {
            throw new IllegalArgumentException("a PATTERN does not suit its FIELD");
        }
        int left = firstType == NONE ? NONE : first;
        int right = secondType == NONE ? NONE : second;
        if (patterns.shareName(left, right) || patterns.deepWith(RECORD, left, right) > MAX_DEEP
                || patterns.partsWith(left, right) > MAX_PARTS) {
            throw new IllegalArgumentException("a NAME twice, too DEEP, or too many PARTS");
        }
        needRoomForPattern();
        return patterns.put(RECORD, records.typeOf(record), record, left, right);
    }

    public int either(int one, int other)
            throws IndexOutOfBoundsException, IllegalArgumentException, IllegalStateException {
        needPattern(one);
        needPattern(other);
        if (patterns.typeOf(one) != patterns.typeOf(other) || !patterns.haveSameNames(one, other)
                || patterns.partsWith(one, other) > MAX_PARTS) {
            throw new IllegalArgumentException("other TYPES, other NAMES, or too many PARTS");
        }
        needRoomForPattern();
        return patterns.put(EITHER, patterns.typeOf(one), NONE, one, other);
    }

    public int add(int pattern, int guard, int number)
            throws IndexOutOfBoundsException, IllegalArgumentException, IllegalStateException {
        needPattern(pattern);
        if (cases.count > 0 && patterns.typeOf(pattern) != typeOfCases()) {
            throw new IllegalArgumentException("the PATTERN is not on the TYPE of the CASES");
        }
        if (guard == NONE ? number != 0 : patterns.typeOfName(pattern, guard) != NUMBER) {
            throw new IllegalArgumentException("no such GUARD, or a number without one");
        }
        if (cases.count >= MAX_CASES) {
            throw new IllegalStateException("there are 6 CASES");
        }
        return cases.put(pattern, guard, number);
    }

    public int cut() throws IllegalStateException {
        if (cases.count <= 0) {
            throw new IllegalStateException("there is no CASE");
        }
        return cases.takeLast();
    }

    public boolean matches(int pattern, int value)
            throws IndexOutOfBoundsException, IllegalArgumentException {
        needPattern(pattern);
        needValue(value);
        if (patterns.typeOf(pattern) != values.typeOf(value)) {
            throw new IllegalArgumentException("PATTERN and VALUE are not of one TYPE");
        }
        return trial.fitsAtTop(pattern, value);
    }

    // ---- to match

    public int takes(int value) throws IndexOutOfBoundsException, IllegalArgumentException {
        needValueForCases(value);
        return trial.takeBy(value, NONE);
    }

    public int looks(int value) throws IndexOutOfBoundsException, IllegalArgumentException {
        needValueForCases(value);
        trial.takeBy(value, NONE);
        return trial.lookedAt();
    }

    public int bound(int value, int name) throws IndexOutOfBoundsException, IllegalArgumentException {
        needValueForCases(value);
        needName(name);
        trial.takeBy(value, NONE);
        return trial.boundTo(name);
    }

    // ---- trees

    public int compile() throws IllegalStateException {
        if (cases.count == 0) {
            throw new IllegalStateException("there are no CASES");
        }
        if (!compiler.build(spare, false)) {
            return NONE;
        }
        Tree made = spare;
        spare = tree;
        tree = made;
        return tree.count;
    }

    public int ofNode(int node, int what) throws IndexOutOfBoundsException, IllegalArgumentException {
        if (!tree.has(node)) {
            throw new IndexOutOfBoundsException("no such NODE");
        }
        if (what < 0 || what > 3) {
            throw new IllegalArgumentException("what is not 0 to 3");
        }
        return tree.tellNode(node, what);
    }

    public int branch(int node, int branch, int what)
            throws IndexOutOfBoundsException, IllegalArgumentException {
        if (!tree.has(node) || branch < 0 || branch >= tree.tellNode(node, 2)) {
            throw new IndexOutOfBoundsException("no such NODE, or branch");
        }
        if (what != 0 && what != 1) {
            throw new IllegalArgumentException("what is not 0 or 1");
        }
        return tree.tellBranch(node, branch, what);
    }

    public int down(int value)
            throws IndexOutOfBoundsException, IllegalArgumentException, IllegalStateException {
        needValueForTree(value);
        return tree.walk(values, value);
    }

    public int tests(int value)
            throws IndexOutOfBoundsException, IllegalArgumentException, IllegalStateException {
        needValueForTree(value);
        tree.walk(values, value);
        return tree.passed;
    }

    public int many(int what) throws IllegalArgumentException {
        if (what < 0 || what > 10) {
            throw new IllegalArgumentException("what is not 0 to 10");
        }
        return howMany(what);
    }

    public double meanTests() {
        int went = 0;
        int passed = 0;
        for (int value = 0; value < values.count; value++) {
            if (tree.count > 0 && values.typeOf(value) == tree.type) {
                tree.walk(values, value);
                passed += tree.passed;
                went++;
            }
        }
        return went == 0 ? 0.0 : (double) passed / (double) went;
    }

    // ---- what goes for all values

    public boolean isReached(int number) throws IndexOutOfBoundsException {
        needCase(number);
        return search.reaches(number);
    }

    public int missing(int place) throws IllegalArgumentException {
        if (place < TOP || place > LAST_ASKED_PLACE) {
            throw new IllegalArgumentException("place is not 1 to 63");
        }
        search.findsMissing(NONE);
        return search.foundAt(place);
    }

    // ---- what would be (nothing is changed)

    public int takesWithout(int number, int value)
            throws IndexOutOfBoundsException, IllegalArgumentException {
        needCase(number);
        needValueForCases(value);
        return trial.takeBy(value, number);
    }

    public boolean missesWithout(int number) throws IndexOutOfBoundsException {
        needCase(number);
        return search.findsMissing(number);
    }

    public int nodesBySmallest() {
        return cases.count > 0 && compiler.build(spare, true) ? spare.count : NONE;
    }

    public long digest() {
        long d = 58142;
        for (int what = 0; what <= 10; what++) {
            d = d * 31 + howMany(what);
        }
        d = digestTakes(d);
        d = digestDown(d);
        d = digestNodes(d);
        for (int number = 0; number < cases.count; number++) {
            d = d * 31 + (search.reaches(number) ? 1 : 0);
            d = d * 31 + (search.findsMissing(number) ? 1 : 0);
        }
        search.findsMissing(NONE);
        for (int place = TOP; place <= LAST_DIGESTED_PLACE; place++) {
            d = d * 31 + search.foundAt(place);
        }
        return d * 31 + nodesBySmallest();
    }

    private long digestTakes(long start) {
        long d = start;
        int type = typeOfCases();
        for (int value = 0; value < values.count; value++) {
            if (values.typeOf(value) == type) {
                d = d * 31 + trial.takeBy(value, NONE);
                d = d * 31 + trial.lookedAt();
                for (int name = 0; name < NAMES; name++) {
                    d = d * 31 + trial.boundTo(name);
                }
            }
        }
        return d;
    }

    private long digestDown(long start) {
        long d = start;
        for (int value = 0; value < values.count; value++) {
            if (tree.count > 0 && values.typeOf(value) == tree.type) {
                d = d * 31 + tree.walk(values, value);
                d = d * 31 + tree.passed;
            }
        }
        return d;
    }

    private long digestNodes(long start) {
        long d = start;
        for (int node = 0; node < tree.count; node++) {
            for (int what = 0; what <= 3; what++) {
                d = d * 31 + tree.tellNode(node, what);
            }
            int branches = tree.tellNode(node, 2);
            for (int branch = 0; branch < branches; branch++) {
                d = d * 31 + tree.tellBranch(node, branch, 0);
                d = d * 31 + tree.tellBranch(node, branch, 1);
            }
        }
        return d;
    }

    private int howMany(int what) {
        switch (what) {
            case 0: return records.types;
            case 1: return records.count;
            case 2: return values.count;
            case 3: return patterns.count;
            case 4: return cases.count;
            case 5: return search.reachedCases();
            case 6: return search.findsMissing(NONE) ? 1 : 0;
            case 7: return tree.count;
            case 8: return tree.worked;
            case 9: return tree.testNodes();
            default: return missedValues();
        }
    }

    private int missedValues() {
        int missed = 0;
        int type = typeOfCases();
        for (int value = 0; value < values.count; value++) {
            if (values.typeOf(value) == type && trial.takeBy(value, NONE) == MISSED) {
                missed++;
            }
        }
        return missed;
    }

    /** NONE without cases: no value is of that type. */
    private int typeOfCases() {
        return patterns.typeOf(cases.patternOf(0));
    }

    private static boolean suits(int fieldType, int part, int partType) {
        return fieldType == NONE ? part == 0 : partType == fieldType;
    }

    private void needType(int type) throws IndexOutOfBoundsException {
        if (!records.hasType(type)) {
            throw new IndexOutOfBoundsException("no such TYPE");
        }
    }

    private void needSealed(int type) throws IndexOutOfBoundsException, IllegalArgumentException {
        needType(type);
        if (type == NUMBER) {
            throw new IllegalArgumentException("NUMBER has no NULL");
        }
    }

    private void needName(int name) throws IllegalArgumentException {
        if (name < 0 || name >= NAMES) {
            throw new IllegalArgumentException("the NAME is not 0 to 3");
        }
    }

    private void needPattern(int pattern) throws IndexOutOfBoundsException {
        if (!patterns.has(pattern)) {
            throw new IndexOutOfBoundsException("no such PATTERN");
        }
    }

    private void needValue(int value) throws IndexOutOfBoundsException {
        if (!values.has(value)) {
            throw new IndexOutOfBoundsException("no such VALUE");
        }
    }

    private void needCase(int number) throws IndexOutOfBoundsException {
        if (number < 0 || number >= cases.count) {
            throw new IndexOutOfBoundsException("no such CASE");
        }
    }

    private void needValueForCases(int value)
            throws IndexOutOfBoundsException, IllegalArgumentException {
        needValue(value);
        if (cases.count > 0 && values.typeOf(value) != typeOfCases()) {
            throw new IllegalArgumentException("the CASES are on another TYPE");
        }
    }

    private void needValueForTree(int value)
            throws IndexOutOfBoundsException, IllegalArgumentException, IllegalStateException {
        needValue(value);
        if (tree.count > 0 && values.typeOf(value) != tree.type) {
            throw new IllegalArgumentException("what was COMPILED is on another TYPE");
        }
        if (tree.count == 0) {
            throw new IllegalStateException("nothing was COMPILED");
        }
    }

    private void needRoomForValue() throws IllegalStateException {
        if (values.count >= MAX_VALUES) {
            throw new IllegalStateException("there are 40 VALUES");
        }
    }

    private void needRoomForPattern() throws IllegalStateException {
        if (patterns.count >= MAX_PATTERNS) {
            throw new IllegalStateException("there are 40 PATTERNS");
        }
    }

    /** How many types there are, and the records of them. */
    private static final class Records {
        int types = 1;
        int count = 0;
        private final int[] owners = new int[MAX_RECORDS];
        private final int[] firsts = new int[MAX_RECORDS];
        private final int[] seconds = new int[MAX_RECORDS];

        boolean hasType(int type) {
            return type >= 0 && type < types;
        }

        boolean isTypeOrNone(int type) {
            return type == NONE || type >= 0 && type < types;
        }

        boolean has(int record) {
            return record >= 0 && record < count;
        }

        int typeOf(int record) {
            return record >= 0 && record < count ? owners[record] : NONE;
        }

        int fieldType(int record, int field) {
            if (record < 0 || record >= count) {
                return NONE;
            }
            return field == 0 ? firsts[record] : seconds[record];
        }

        int put(int type, int first, int second) {
            if (count >= MAX_RECORDS) {
                return NONE;
            }
            owners[count] = type;
            firsts[count] = first;
            seconds[count] = second;
            count++;
            return count - 1;
        }
    }

    /** The values that were made. */
    private static final class Values {
        int count = 0;
        private final int[] types = new int[MAX_VALUES];
        private final int[] ofRecords = new int[MAX_VALUES];
        private final int[] numbers = new int[MAX_VALUES];
        private final int[] firsts = new int[MAX_VALUES];
        private final int[] seconds = new int[MAX_VALUES];

        boolean has(int value) {
            return value >= 0 && value < count;
        }

        int typeOf(int value) {
            return value >= 0 && value < count ? types[value] : NONE;
        }

        /** NONE of a NUMBER, and of NULL. */
        int recordOf(int value) {
            return value >= 0 && value < count ? ofRecords[value] : NONE;
        }

        int numberOf(int value) {
            return value >= 0 && value < count ? numbers[value] : 0;
        }

        boolean isNull(int value) {
            return value >= 0 && value < count && types[value] != NUMBER && ofRecords[value] == NONE;
        }

        int fieldOf(int value, int field) {
            if (value < 0 || value >= count) {
                return NONE;
            }
            return field == 0 ? firsts[value] : seconds[value];
        }

        /** The value at a place below 64 in that value; NONE, if it has no such place. */
        int below(int value, int place) {
            int found = value;
            for (int bit = 4; bit >= 0; bit--) {
                // The highest bit of a place stands for the top; each one behind it names a field.
                if (place >> (bit + 1) != 0) {
                    found = fieldOf(found, (place >> bit) & 1);
                }
            }
            return found;
        }

        int put(int type, int record, int first, int second) {
            if (count >= MAX_VALUES) {
                return NONE;
            }
            types[count] = type;
            ofRecords[count] = record;
            firsts[count] = first;
            seconds[count] = second;
            count++;
            return count - 1;
        }

        int putNumber(int number) {
            int made = put(NUMBER, NONE, NONE, NONE);
            if (made >= 0 && made < count) {
                numbers[made] = number;
            }
            return made;
        }
    }

    /** The patterns that were made, with what follows from their parts. */
    private static final class Patterns {
        int count = 0;
        private final int[] types = new int[MAX_PATTERNS];
        private final int[] kinds = new int[MAX_PATTERNS];
        private final int[] heads = new int[MAX_PATTERNS];
        private final int[] highs = new int[MAX_PATTERNS];
        private final int[] lefts = new int[MAX_PATTERNS];
        private final int[] rights = new int[MAX_PATTERNS];
        private final int[] deeps = new int[MAX_PATTERNS];
        private final int[] parts = new int[MAX_PATTERNS];
        private final boolean[] opens = new boolean[MAX_PATTERNS];
        private final int[] nameTypes = new int[MAX_PATTERNS * NAMES];

        boolean has(int pattern) {
            return pattern >= 0 && pattern < count;
        }

        int typeOf(int pattern) {
            return pattern >= 0 && pattern < count ? types[pattern] : NONE;
        }

        int kindOf(int pattern) {
            return pattern >= 0 && pattern < count ? kinds[pattern] : ANY;
        }

        /** The NAME, the RECORD, or the least number of a RANGE. */
        int headOf(int pattern) {
            return pattern >= 0 && pattern < count ? heads[pattern] : NONE;
        }

        int highOf(int pattern) {
            return pattern >= 0 && pattern < count ? highs[pattern] : NONE;
        }

        /** That on field 0 of a RECORD, or the first side of an EITHER. */
        int leftOf(int pattern) {
            return pattern >= 0 && pattern < count ? lefts[pattern] : NONE;
        }

        int rightOf(int pattern) {
            return pattern >= 0 && pattern < count ? rights[pattern] : NONE;
        }

        boolean isOpen(int pattern) {
            return pattern < 0 || pattern >= count || opens[pattern];
        }

        /** The type on which that NAME stands in the pattern; NONE, if it is not in it. */
        int typeOfName(int pattern, int name) {
            boolean known = pattern >= 0 && pattern < count && name >= 0 && name < NAMES;
            return known ? nameTypes[pattern * NAMES + name] : NONE;
        }

        /** Whether it is that RECORD, or NULL, if that is asked for. */
        boolean isOfHead(int pattern, int head) {
            if (pattern < 0 || pattern >= count) {
                return false;
            }
            return head == FOR_NULL ? kinds[pattern] == NULL
                    : kinds[pattern] == RECORD && heads[pattern] == head;
        }

        boolean isRangeWith(int pattern, int number) {
            return pattern >= 0 && pattern < count && kinds[pattern] == RANGE
                    && heads[pattern] <= number && number <= highs[pattern];
        }

        boolean shareName(int one, int other) {
            for (int name = 0; name < NAMES; name++) {
                if (typeOfName(one, name) != NONE && typeOfName(other, name) != NONE) {
                    return true;
                }
            }
            return false;
        }

        boolean haveSameNames(int one, int other) {
            for (int name = 0; name < NAMES; name++) {
                if (typeOfName(one, name) != typeOfName(other, name)) {
                    return false;
                }
            }
            return true;
        }

        int deepWith(int kind, int left, int right) {
            int deepest = 0;
            if (left >= 0 && left < count) {
                deepest = deeps[left];
            }
            if (right >= 0 && right < count) {
                deepest = Math.max(deepest, deeps[right]);
            }
            return kind == EITHER ? deepest : deepest + 1;
        }

        int partsWith(int left, int right) {
            int sum = 1;
            if (left >= 0 && left < count) {
                sum += parts[left];
            }
            if (right >= 0 && right < count) {
                sum += parts[right];
            }
            return sum;
        }

        int put(int kind, int type, int head, int left, int right) {
            if (count >= MAX_PATTERNS) {
                return NONE;
            }
            int made = count;
            kinds[made] = kind;
            types[made] = type;
            heads[made] = head;
            lefts[made] = left;
            rights[made] = right;
            deeps[made] = deepWith(kind, left, right);
            parts[made] = partsWith(left, right);
            opens[made] = kind == ANY || kind == NAME || kind == EITHER && (isOpen(left) || isOpen(right));
            for (int name = 0; name < NAMES; name++) {
                int inherited = Math.max(typeOfName(left, name), typeOfName(right, name));
                nameTypes[made * NAMES + name] = kind == NAME && name == head ? type : inherited;
            }
            count++;
            return made;
        }

        int putRange(int low, int high) {
            int made = put(RANGE, NUMBER, low, NONE, NONE);
            if (made >= 0 && made < count) {
                highs[made] = high;
            }
            return made;
        }
    }

    /** The cases, in the order in which they are tried. */
    private static final class Cases {
        int count = 0;
        private final int[] patterns = new int[MAX_CASES];
        private final int[] guards = new int[MAX_CASES];
        private final int[] numbers = new int[MAX_CASES];

        int patternOf(int number) {
            return number >= 0 && number < count ? patterns[number] : NONE;
        }

        int guardOf(int number) {
            return number >= 0 && number < count ? guards[number] : NONE;
        }

        int numberOf(int number) {
            return number >= 0 && number < count ? numbers[number] : 0;
        }

        int put(int pattern, int guard, int number) {
            if (count >= MAX_CASES) {
                return NONE;
            }
            patterns[count] = pattern;
            guards[count] = guard;
            numbers[count] = number;
            count++;
            return count - 1;
        }

        int takeLast() {
            if (count <= 0) {
                return NONE;
            }
            count--;
            return patterns[count];
        }
    }

    /** Tries the cases one after the other on a value, and keeps what that looked at and bound. */
    private static final class Trial {
        private final Values values;
        private final Patterns patterns;
        private final Cases cases;
        private final int[] boundValues = new int[NAMES];
        private int looked = 0;

        Trial(Values values, Patterns patterns, Cases cases) {
            this.values = values;
            this.patterns = patterns;
            this.cases = cases;
        }

        boolean fitsAtTop(int pattern, int value) {
            return fits(pattern, value, TOP, 0);
        }

        int takeBy(int value, int without) {
            looked = 0;
            for (int number = 0; number < cases.count; number++) {
                // What a case bound ahead of its failing must not be told of a later one.
                Arrays.fill(boundValues, NONE);
                if (number != without && fits(cases.patternOf(number), value, TOP, 0) && holds(number)) {
                    return number;
                }
            }
            Arrays.fill(boundValues, NONE);
            return values.isNull(value) ? REFUSED : MISSED;
        }

        int lookedAt() {
            return Integer.bitCount(looked);
        }

        int boundTo(int name) {
            return name >= 0 && name < boundValues.length ? boundValues[name] : NONE;
        }

        private boolean holds(int number) {
            int guard = cases.guardOf(number);
            return guard == NONE || values.numberOf(boundTo(guard)) > cases.numberOf(number);
        }

        private boolean fits(int pattern, int value, int place, int depth) {
            if (depth > MAX_PARTS) {
                return false;
            }
            switch (patterns.kindOf(pattern)) {
                case ANY:
                    return place != TOP || !values.isNull(value);
                case NAME:
                    return binds(patterns.headOf(pattern), value, place);
                case EITHER:
                    return fits(patterns.leftOf(pattern), value, place, depth + 1)
                            || fits(patterns.rightOf(pattern), value, place, depth + 1);
                case RANGE:
                    looked |= 1 << place;
                    return patterns.isRangeWith(pattern, values.numberOf(value));
                case NULL:
                    looked |= 1 << place;
                    return values.isNull(value);
                default:
                    looked |= 1 << place;
                    return values.recordOf(value) == patterns.headOf(pattern)
                            && fitsField(patterns.leftOf(pattern), value, 2 * place, depth)
                            && fitsField(patterns.rightOf(pattern), value, 2 * place + 1, depth);
            }
        }

        private boolean fitsField(int pattern, int value, int place, int depth) {
            return pattern == NONE || fits(pattern, values.fieldOf(value, place & 1), place, depth + 1);
        }

        private boolean binds(int name, int value, int place) {
            if (place == TOP && values.isNull(value)) {
                return false;
            }
            if (name >= 0 && name < boundValues.length) {
                boundValues[name] = value;
            }
            return true;
        }
    }

    /** Rows of patterns, with a column for each place that is still to be looked at. */
    private static final class Matrix {
        // 6 cases, each in 6 parts 3 rows at most, and the row of what is searched for.
        private static final int MAX_ROWS = 19;
        // A row: its owner, its patterns by places, and the places at which its names were bound.
        private static final int OWNER = 0;
        private static final int NAMED = PLACES;
        private static final int WIDTH = PLACES + NAMES;
        private static final int[] TOP_FIRST = {1, 2, 4, 5, 3, 6, 7};

        int rows = 0;
        private int columns = 0;
        private final Patterns patterns;
        private final Records records;
        private final int[] types = new int[PLACES];
        private final int[] slots = new int[MAX_ROWS * WIDTH];

        Matrix(Patterns patterns, Records records) {
            this.patterns = patterns;
            this.records = records;
        }

        boolean hasColumn(int place) {
            return (columns >> place & 1) != 0;
        }

        int typeAt(int place) {
            return place >= 0 && place < PLACES ? types[place] : NONE;
        }

        int slotOf(int row, int slot) {
            boolean known = row >= 0 && row < rows && slot >= 0 && slot < WIDTH;
            return known ? slots[row * WIDTH + slot] : NONE;
        }

        int ownerOf(int row) {
            return slotOf(row, OWNER);
        }

        private void setSlot(int row, int slot, int what) {
            if (row >= 0 && row < rows && slot >= 0 && slot < WIDTH) {
                slots[row * WIDTH + slot] = what;
            }
        }

        /** Becomes one column, the top, without rows. */
        void beginAtTop(int type) {
            rows = 0;
            columns = 1 << TOP;
            types[TOP] = type;
        }

        void addAtTop(int owner, int pattern) {
            if (rows >= MAX_ROWS) {
                return;
            }
            rows++;
            for (int slot = 0; slot < WIDTH; slot++) {
                setSlot(rows - 1, slot, NONE);
            }
            setSlot(rows - 1, OWNER, owner);
            setSlot(rows - 1, TOP, pattern);
        }

        private void beginLike(Matrix from) {
            rows = 0;
            columns = from.columns;
            System.arraycopy(from.types, 0, types, 0, PLACES);
        }

        private void copyRow(Matrix from, int row) {
            if (rows < MAX_ROWS && row >= 0 && row < from.rows) {
                System.arraycopy(from.slots, row * WIDTH, slots, rows * WIDTH, WIDTH);
                rows++;
            }
        }

        /** Becomes from, with two rows for each that has an EITHER at the place. */
        void splitEithers(Matrix from, int place) {
            beginLike(from);
            for (int row = 0; row < from.rows; row++) {
                splitRow(from, row, place, from.slotOf(row, place), 0);
            }
        }

        private void splitRow(Matrix from, int row, int place, int pattern, int depth) {
            if (patterns.kindOf(pattern) == EITHER && depth < MAX_PARTS) {
                splitRow(from, row, place, patterns.leftOf(pattern), depth + 1);
                splitRow(from, row, place, patterns.rightOf(pattern), depth + 1);
                return;
            }
            if (rows < MAX_ROWS) {
                copyRow(from, row);
                setSlot(rows - 1, place, pattern);
            }
        }

        /** Becomes what is left of from, if at the place is NULL, that record, or another one. */
        void keepHead(Matrix from, int place, int head) {
            beginLike(from);
            columns &= ~(1 << place);
            addFields(place, head);
            // At the top an open pattern does not match NULL.
            boolean openToo = head != FOR_NULL || place != TOP;
            for (int row = 0; row < from.rows; row++) {
                int pattern = from.slotOf(row, place);
                if (patterns.isOpen(pattern) ? openToo : patterns.isOfHead(pattern, head)) {
                    copyRow(from, row);
                    setFields(pattern, place);
                }
            }
        }

        private void addFields(int place, int record) {
            for (int field = 0; field < 2; field++) {
                int below = 2 * place + field;
                int type = records.fieldType(record, field);
                if (type != NONE && below >= 0 && below < PLACES) {
                    columns |= 1 << below;
                    types[below] = type;
                }
            }
        }

        private void setFields(int pattern, int place) {
            boolean parted = patterns.kindOf(pattern) == RECORD;
            if (2 * place + 1 < PLACES) {
                setSlot(rows - 1, 2 * place, parted ? patterns.leftOf(pattern) : ANYTHING);
                setSlot(rows - 1, 2 * place + 1, parted ? patterns.rightOf(pattern) : ANYTHING);
            }
        }

        // Guards ask NUMBERS alone, so that no name on another type is looked for later.
        private void nameAt(int pattern, int place) {
            if (patterns.kindOf(pattern) == NAME) {
                setSlot(rows - 1, NAMED + patterns.headOf(pattern), place);
            }
        }

        /** Becomes what is left of from, if at the place is that number. */
        void keepNumber(Matrix from, int place, int number) {
            beginLike(from);
            columns &= ~(1 << place);
            for (int row = 0; row < from.rows; row++) {
                int pattern = from.slotOf(row, place);
                if (patterns.isOpen(pattern) || patterns.isRangeWith(pattern, number)) {
                    copyRow(from, row);
                    nameAt(pattern, place);
                }
            }
        }

        /** Becomes from without the rows of that owner. */
        void dropOwner(Matrix from, int owner) {
            beginLike(from);
            for (int row = 0; row < from.rows; row++) {
                if (from.ownerOf(row) != owner) {
                    copyRow(from, row);
                }
            }
        }

        /** The next number above that one at which other rows are left; above all, if there is none. */
        int nextStart(int place, int number) {
            int next = GREATEST + 1;
            for (int row = 0; row < rows; row++) {
                int pattern = slotOf(row, place);
                if (patterns.kindOf(pattern) == RANGE) {
                    int low = patterns.headOf(pattern);
                    int behind = patterns.highOf(pattern) + 1;
                    next = low > number ? Math.min(next, low) : next;
                    next = behind > number ? Math.min(next, behind) : next;
                }
            }
            return next;
        }

        boolean hasHead(int place, int head) {
            for (int row = 0; row < rows; row++) {
                if (patterns.isOfHead(slotOf(row, place), head)) {
                    return true;
                }
            }
            return false;
        }

        int weightOf(int place) {
            for (int row = 0; row < rows; row++) {
                if (patterns.isOpen(slotOf(row, place))) {
                    return row;
                }
            }
            return rows;
        }

        boolean isOpenRow(int row) {
            for (int place = TOP; place < PLACES; place++) {
                if (hasColumn(place) && !patterns.isOpen(slotOf(row, place))) {
                    return false;
                }
            }
            return true;
        }

        boolean hasRowOf(int owner) {
            for (int row = 0; row < rows; row++) {
                if (ownerOf(row) == owner) {
                    return true;
                }
            }
            return false;
        }

        boolean hasOpenRowOf(int owner) {
            for (int row = 0; row < rows; row++) {
                if (ownerOf(row) == owner && isOpenRow(row)) {
                    return true;
                }
            }
            return false;
        }

        /** The first column in the order in which values are compared; NONE without columns. */
        int firstColumn() {
            for (int i = 0; i < TOP_FIRST.length; i++) {
                if (hasColumn(TOP_FIRST[i])) {
                    return TOP_FIRST[i];
                }
            }
            return NONE;
        }

        /** The place to which the name is bound in an open row. */
        int placeOfName(int row, int name) {
            for (int place = TOP; place < PLACES; place++) {
                if (hasColumn(place) && patterns.typeOfName(slotOf(row, place), name) != NONE) {
                    return place;
                }
            }
            return slotOf(row, NAMED + name);
        }
    }

    /** What is worked on at one depth: a matrix, and the node that is made of it. */
    private static final class Level {
        // 7 tests of places and 6 guards on a way, and its end; one more that is never worked on.
        static final int LEVELS = 15;
        // 18 rows with a range each make 37 ranges; a sealed type has 14 branches at most.
        private static final int MAX_BRANCHES = 37;

        final Level below;
        final Matrix left;
        final Matrix split;
        int kind = MISS;
        int about = NONE;
        int look = NONE;
        int branches = 0;
        private final int[] targets = new int[MAX_BRANCHES];
        private final int[] labels = new int[MAX_BRANCHES];

        Level(Patterns patterns, Records records, Level below) {
            this.below = below;
            left = new Matrix(patterns, records);
            split = new Matrix(patterns, records);
        }

        void begin(int newKind, int newAbout, int newLook) {
            kind = newKind;
            about = newAbout;
            look = newLook;
            branches = 0;
        }

        /** Whether the branch could be added: not, if nothing came of what is behind it. */
        boolean lead(int node, int label) {
            if (node == NONE || branches >= MAX_BRANCHES) {
                return false;
            }
            targets[branches] = node;
            labels[branches] = label;
            branches++;
            return true;
        }

        int targetOf(int branch) {
            return branch >= 0 && branch < branches ? targets[branch] : NONE;
        }

        int labelOf(int branch) {
            return branch >= 0 && branch < branches ? labels[branch] : NONE;
        }
    }

    /** The nodes of what was compiled, each that is the same only once. */
    private static final class Tree {
        // A node for each matrix, and REFUSE and NEW.
        private static final int MAX_NODES = MAX_MATRICES + 2;
        // A branch for each matrix but the first, for REFUSE, and for NEW at each test.
        private static final int MAX_LINKS = 2 * MAX_MATRICES;

        int count = 0;
        int type = NONE;
        int worked = 0;
        int passed = 0;
        boolean bySmallest = false;
        private int links = 0;
        private final int[] kinds = new int[MAX_NODES];
        private final int[] abouts = new int[MAX_NODES];
        private final int[] looks = new int[MAX_NODES];
        private final int[] deepest = new int[MAX_NODES];
        private final int[] starts = new int[MAX_NODES];
        private final int[] branches = new int[MAX_NODES];
        private final int[] targets = new int[MAX_LINKS];
        private final int[] labels = new int[MAX_LINKS];
        private final int[] numbers = new int[MAX_CASES];

        void begin(int newType, Cases cases, boolean smallest) {
            count = 0;
            links = 0;
            worked = 0;
            type = newType;
            bySmallest = smallest;
            for (int number = 0; number < MAX_CASES; number++) {
                numbers[number] = cases.numberOf(number);
            }
        }

        boolean has(int node) {
            return node >= 0 && node < count;
        }

        int testNodes() {
            int tests = 0;
            for (int node = 0; node < count; node++) {
                if (kinds[node] == TEST) {
                    tests++;
                }
            }
            return tests;
        }

        int tellNode(int node, int what) {
            if (node < 0 || node >= count) {
                return NONE;
            }
            switch (what) {
                case 0: return kinds[node];
                case 1: return abouts[node];
                case 2: return branches[node];
                default: return deepest[node];
            }
        }

        int tellBranch(int node, int branch, int what) {
            if (node < 0 || node >= count || branch < 0 || branch >= branches[node]) {
                return NONE;
            }
            int link = starts[node] + branch;
            if (link < 0 || link >= links) {
                return NONE;
            }
            return what == 0 ? targets[link] : labels[link];
        }

        /** The number of the node that the level has made; NONE, if there is no room for it. */
        int keep(Level made) {
            for (int node = 0; node < count; node++) {
                if (isSame(node, made)) {
                    return node;
                }
            }
            if (count >= MAX_NODES || links + made.branches > MAX_LINKS) {
                return NONE;
            }
            int node = count;
            kinds[node] = made.kind;
            abouts[node] = made.about;
            looks[node] = made.look;
            starts[node] = links;
            branches[node] = made.branches;
            deepest[node] = keepBranches(made) + (made.kind == TEST ? 1 : 0);
            count++;
            return node;
        }

        private boolean isSame(int node, Level made) {
            if (node < 0 || node >= count || kinds[node] != made.kind || abouts[node] != made.about
                    || looks[node] != made.look || branches[node] != made.branches) {
                return false;
            }
            for (int branch = 0; branch < made.branches; branch++) {
                if (tellBranch(node, branch, 0) != made.targetOf(branch)
                        || tellBranch(node, branch, 1) != made.labelOf(branch)) {
                    return false;
                }
            }
            return true;
        }

        /** The most tests on a way from a branch. */
        private int keepBranches(Level made) {
            int most = 0;
            for (int branch = 0; branch < made.branches && links < MAX_LINKS; branch++) {
                int target = made.targetOf(branch);
                targets[links] = target;
                labels[links] = made.labelOf(branch);
                links++;
                most = Math.max(most, tellNode(target, 3));
            }
            return most;
        }

        /** What comes of the value; passed is then how many tests it went by. */
        int walk(Values values, int value) {
            passed = 0;
            int node = count - 1;
            for (int steps = 0; steps < MAX_NODES && node >= 0 && node < count; steps++) {
                switch (kinds[node]) {
                    case TAKE:
                        return abouts[node];
                    case ASK:
                        if (holds(node, values.numberOf(values.below(value, looks[node])))) {
                            return abouts[node];
                        }
                        node = tellBranch(node, 0, 0);
                        break;
                    case TEST:
                        passed++;
                        node = next(node, values, values.below(value, abouts[node]));
                        break;
                    case REFUSE:
                        return REFUSED;
                    case NEW:
                        return UNKNOWN;
                    default:
                        return MISSED;
                }
            }
            return MISSED;
        }

        private boolean holds(int node, int number) {
            int asked = tellNode(node, 1);
            return asked >= 0 && asked < MAX_CASES && number > numbers[asked];
        }

        private int next(int node, Values values, int value) {
            if (values.typeOf(value) == NUMBER) {
                return nextByNumber(node, values.numberOf(value));
            }
            int head = values.isNull(value) ? FOR_NULL : values.recordOf(value);
            int others = NONE;
            int all = tellNode(node, 2);
            for (int branch = 0; branch < all; branch++) {
                int label = tellBranch(node, branch, 1);
                if (label == head) {
                    return tellBranch(node, branch, 0);
                }
                others = label == FOR_OTHERS ? tellBranch(node, branch, 0) : others;
            }
            return others;
        }

        private int nextByNumber(int node, int number) {
            int found = NONE;
            int all = tellNode(node, 2);
            for (int branch = 0; branch < all; branch++) {
                if (tellBranch(node, branch, 1) <= number) {
                    found = tellBranch(node, branch, 0);
                }
            }
            return found;
        }
    }

    /** Makes a tree of the cases that there are. */
    private static final class Compiler {
        private final Records records;
        private final Patterns patterns;
        private final Cases cases;
        private final Level top;

        Compiler(Records records, Patterns patterns, Cases cases, Level top) {
            this.records = records;
            this.patterns = patterns;
            this.cases = cases;
            this.top = top;
        }

        /** Whether that went without too many matrices; otherwise the tree is good for nothing. */
        boolean build(Tree tree, boolean bySmallest) {
            int type = patterns.typeOf(cases.patternOf(0));
            tree.begin(type, cases, bySmallest);
            top.left.beginAtTop(type);
            for (int number = 0; number < cases.count; number++) {
                top.left.addAtTop(number, cases.patternOf(number));
            }
            return workOn(tree, top) != NONE;
        }

        /** The node of the matrix of that level; NONE, if nothing can be compiled. */
        private int workOn(Tree tree, Level level) {
            Matrix left = level.left;
            tree.worked++;
            if (tree.worked > MAX_MATRICES || level.below == null) {
                return NONE;
            }
            if (left.rows == 0) {
                return leaf(tree, level, MISS);
            }
            boolean sealedTop = left.hasColumn(TOP) && left.typeAt(TOP) != NUMBER;
            if (!sealedTop && left.isOpenRow(0)) {
                return takeOrAsk(tree, level);
            }
            int place = sealedTop ? TOP : placeToTest(left, tree.bySmallest);
            level.split.splitEithers(left, place);
            level.begin(TEST, place, NONE);
            boolean whole = left.typeAt(place) == NUMBER
                    ? testNumber(tree, level, place) : testSealed(tree, level, place);
            return whole ? tree.keep(level) : NONE;
        }

        private int leaf(Tree tree, Level level, int kind) {
            level.begin(kind, NONE, NONE);
            return tree.keep(level);
        }

        private int takeOrAsk(Tree tree, Level level) {
            Matrix left = level.left;
            int taken = left.ownerOf(0);
            int guard = cases.guardOf(taken);
            if (guard == NONE) {
                level.begin(TAKE, taken, NONE);
                return tree.keep(level);
            }
            if (level.below == null) {
                return NONE;
            }
            level.begin(ASK, taken, left.placeOfName(0, guard));
            level.below.left.dropOwner(left, taken);
            return level.lead(workOn(tree, level.below), FOR_NOT_HELD) ? tree.keep(level) : NONE;
        }

        private int placeToTest(Matrix left, boolean bySmallest) {
            int chosen = NONE;
            int most = 0;
            for (int place = TOP; place < PLACES; place++) {
                int weight = left.hasColumn(place) ? left.weightOf(place) : 0;
                if (weight > most && !(bySmallest && chosen != NONE)) {
                    chosen = place;
                    most = weight;
                }
            }
            return chosen;
        }

        private boolean testNumber(Tree tree, Level level, int place) {
            if (level.below == null) {
                return false;
            }
            int number = LEAST;
            for (int i = 0; i < Level.MAX_BRANCHES && number <= GREATEST; i++) {
                level.below.left.keepNumber(level.split, place, number);
                if (!level.lead(workOn(tree, level.below), number)) {
                    return false;
                }
                number = level.split.nextStart(place, number);
            }
            return true;
        }

        private boolean testSealed(Tree tree, Level level, int place) {
            Level below = level.below;
            if (below == null) {
                return false;
            }
            boolean all = true;
            for (int next = FOR_NULL; next <= records.count; next++) {
                int head = next < records.count ? next : FOR_OTHERS;
                boolean had = level.split.hasHead(place, head);
                if (head >= 0 && !had) {
                    all = all && records.typeOf(head) != level.left.typeAt(place);
                    continue;
                }
                below.left.keepHead(level.split, place, head);
                boolean refused = head == FOR_NULL && place == TOP && !had;
                boolean isNew = head == FOR_OTHERS && all && below.left.rows == 0;
                int node = refused ? leaf(tree, below, REFUSE)
                        : isNew ? leaf(tree, below, NEW) : workOn(tree, below);
                if (!level.lead(node, head)) {
                    return false;
                }
            }
            return true;
        }
    }

    /** Finds the least value, made or not, that one pattern matches and those of some cases do not. */
    private static final class Search {
        private static final int WANTED = 0;
        private static final int UNWANTED = 1;
        private static final int ABSENT = -2;
        private static final int NUMBERS_FROM = 1000;
        // At places 4 to 7 a record can be wanted; nothing is looked at in its fields.
        private static final int FOUND_PLACES = 16;

        private final Records records;
        private final Patterns patterns;
        private final Cases cases;
        private final Level top;
        private final int[] found = new int[FOUND_PLACES];

        Search(Records records, Patterns patterns, Cases cases, Level top) {
            this.records = records;
            this.patterns = patterns;
            this.cases = cases;
            this.top = top;
        }

        boolean reaches(int number) {
            begin(cases.patternOf(number), number, NONE);
            return hunt(top);
        }

        int reachedCases() {
            int reached = 0;
            for (int number = 0; number < cases.count; number++) {
                begin(cases.patternOf(number), number, NONE);
                if (hunt(top)) {
                    reached++;
                }
            }
            return reached;
        }

        /** Whether something is missing without that case (NONE: with all); false without any other. */
        boolean findsMissing(int without) {
            begin(ANYTHING, cases.count, without);
            int others = without == NONE ? cases.count : cases.count - 1;
            boolean success = others > 0 && hunt(top);
            if (!success) {
                Arrays.fill(found, ABSENT);
            }
            return success;
        }

        /** What the value that was found has at that place, as missing() tells it. */
        int foundAt(int place) {
            return place >= 0 && place < FOUND_PLACES ? found[place] : ABSENT;
        }

        private void begin(int wanted, int end, int without) {
            top.left.beginAtTop(patterns.typeOf(cases.patternOf(0)));
            top.left.addAtTop(WANTED, wanted);
            for (int number = 0; number < end; number++) {
                if (number != without && cases.guardOf(number) == NONE) {
                    top.left.addAtTop(UNWANTED, cases.patternOf(number));
                }
            }
        }

        private boolean hunt(Level level) {
            Matrix left = level.left;
            if (level.below == null || !left.hasRowOf(WANTED)) {
                return false;
            }
            // At the top an open row does not match NULL, so that it does not yet end the search.
            if (!left.hasColumn(TOP) && left.hasOpenRowOf(UNWANTED)) {
                return false;
            }
            int place = left.firstColumn();
            if (place == NONE) {
                return true;
            }
            level.split.splitEithers(left, place);
            return left.typeAt(place) == NUMBER ? huntNumber(level, place) : huntSealed(level, place);
        }

        private boolean huntNumber(Level level, int place) {
            if (level.below == null) {
                return false;
            }
            int number = LEAST;
            for (int i = 0; i <= 2 * Matrix.MAX_ROWS && number <= GREATEST; i++) {
                level.below.left.keepNumber(level.split, place, number);
                mark(place, NUMBERS_FROM + number);
                if (hunt(level.below)) {
                    return true;
                }
                number = level.split.nextStart(place, number);
            }
            return false;
        }

        private boolean huntSealed(Level level, int place) {
            if (level.below == null) {
                return false;
            }
            // Of all heads that no row has the same is left, so that the least one stands for them.
            boolean spare = true;
            for (int head = FOR_NULL; head < records.count; head++) {
                boolean ofType = head == FOR_NULL || records.typeOf(head) == level.left.typeAt(place);
                boolean had = level.split.hasHead(place, head);
                if (ofType && (had || spare)) {
                    level.below.left.keepHead(level.split, place, head);
                    mark(place, head);
                    if (hunt(level.below)) {
                        return true;
                    }
                    // NULL at the top is no such head: open rows are left of all others alone.
                    spare = spare && (had || head == FOR_NULL && place == TOP);
                }
            }
            return false;
        }

        private void mark(int place, int head) {
            if (place < TOP || place >= PLACES) {
                return;
            }
            found[place] = head;
            forgetBelow(place);
            for (int field = 0; field < 2; field++) {
                int below = 2 * place + field;
                int type = records.fieldType(head, field);
                if (type != NONE && below >= PLACES && below < FOUND_PLACES) {
                    found[below] = type == NUMBER ? NUMBERS_FROM + LEAST : FOR_NULL;
                }
            }
        }

        private void forgetBelow(int place) {
            for (int below = place + 1; below < FOUND_PLACES; below++) {
                if (below >> 1 == place || below >> 2 == place || below >> 3 == place) {
                    found[below] = ABSENT;
                }
            }
        }
    }
}
