import java.util.ArrayList;
import java.util.LinkedHashMap;
import java.util.List;
import java.util.Map;
import java.util.TreeMap;
import java.util.TreeSet;

/**
 * A second reading of the document, made of lists and texts without any care for cost, and with
 * the questions about all values answered by going through the values themselves.
 */
final class Reference {
    static final class Rec {
        final int number;
        final int type;
        final int[] fields;

        Rec(int number, int type, int... fields) {
            this.number = number;
            this.type = type;
            this.fields = fields;
        }
    }

    /** A value: a number, NULL (rec null), or a record. id is NONE of one that was not made. */
    static final class Val {
        final int id;
        final int type;
        final int number;
        final Rec rec;
        final List<Val> fields;

        Val(int id, int type, int number, Rec rec, List<Val> fields) {
            this.id = id;
            this.type = type;
            this.number = number;
            this.rec = rec;
            this.fields = fields;
        }

        boolean isNull() {
            return type != 0 && rec == null;
        }

        Val at(int place) {
            if (place == 1) {
                return this;
            }
            Val above = at(place / 2);
            return above == null || above.fields.size() <= place % 2 ? null : above.fields.get(place % 2);
        }
    }

    static final class Pat {
        final String kind;
        final int type;
        final int low;
        final int high;
        final Rec rec;
        final List<Pat> parts;

        Pat(String kind, int type, int low, int high, Rec rec, List<Pat> parts) {
            this.kind = kind;
            this.type = type;
            this.low = low;
            this.high = high;
            this.rec = rec;
            this.parts = parts;
        }

        boolean open() {
            if (kind.equals("EITHER")) {
                return parts.get(0).open() || parts.get(1).open();
            }
            return kind.equals("ANY") || kind.equals("NAME");
        }

        int deep() {
            int deepest = 0;
            for (Pat part : parts) {
                deepest = Math.max(deepest, part.deep());
            }
            return kind.equals("EITHER") ? deepest : 1 + deepest;
        }

        int size() {
            int sum = 1;
            for (Pat part : parts) {
                sum += part.size();
            }
            return sum;
        }

        Map<Integer, Integer> names() {
            Map<Integer, Integer> all = new TreeMap<>();
            if (kind.equals("NAME")) {
                all.put(low, type);
            }
            for (Pat part : parts) {
                all.putAll(part.names());
            }
            return all;
        }

        void numbers(TreeSet<Integer> all) {
            if (kind.equals("RANGE")) {
                all.add(low);
                if (high < 99) {
                    all.add(high + 1);
                }
            }
            for (Pat part : parts) {
                part.numbers(all);
            }
        }
    }

    static final class Case {
        final Pat pattern;
        final int patternId;
        final int guard;
        final int number;

        Case(Pat pattern, int patternId, int guard, int number) {
            this.pattern = pattern;
            this.patternId = patternId;
            this.guard = guard;
            this.number = number;
        }
    }

    static final class Row {
        final int number;
        final TreeMap<Integer, Pat> cells = new TreeMap<>();
        final Map<Integer, Integer> named = new TreeMap<>();

        Row(int number) {
            this.number = number;
        }

        Row copy() {
            Row made = new Row(number);
            made.cells.putAll(cells);
            made.named.putAll(named);
            return made;
        }

        boolean open() {
            for (Pat cell : cells.values()) {
                if (!cell.open()) {
                    return false;
                }
            }
            return true;
        }
    }

    static final class Node {
        int kind;
        int about = -1;
        int look = -1;
        int longest = 0;
        final List<Integer> labels = new ArrayList<>();
        final List<Integer> targets = new ArrayList<>();
        Case asked;

        String text() {
            return kind + "/" + about + "/" + look + labels + targets;
        }
    }

    static final class Nodes {
        final List<Node> all = new ArrayList<>();
        final Map<String, Integer> numbers = new LinkedHashMap<>();
        int type;
        int worked = 0;
        List<Rec> recs;
        List<Case> cases;
        boolean smallest;
        int limit;

        int keep(Node node) {
            Integer known = numbers.get(node.text());
            if (known != null) {
                return known;
            }
            for (int target : node.targets) {
                node.longest = Math.max(node.longest, all.get(target).longest);
            }
            node.longest += node.kind == 3 ? 1 : 0;
            all.add(node);
            numbers.put(node.text(), all.size() - 1);
            return all.size() - 1;
        }
    }

    private static final class TooMany extends Exception {
        private static final long serialVersionUID = 1;
    }

    int types = 1;
    final List<Rec> recs = new ArrayList<>();
    final List<Val> vals = new ArrayList<>();
    final List<Pat> pats = new ArrayList<>();
    final List<Case> cases = new ArrayList<>();
    Nodes compiled = null;

    // ---- telling

    int type() {
        state(types < 5);
        return types++;
    }

    int record(int type, int first, int second) {
        bounds(type >= 0 && type < types);
        argument(type != 0 && first >= -1 && first < types && second >= -1 && second < types);
        argument(first != -1 || second == -1);
        state(recs.size() < 12);
        int[] fields = first == -1 ? new int[] {} : second == -1 ? new int[] {first} : new int[] {first, second};
        recs.add(new Rec(recs.size(), type, fields));
        return recs.size() - 1;
    }

    int number(int number) {
        argument(number >= -99 && number <= 99);
        return keepVal(0, number, null, List.of());
    }

    int none(int type) {
        bounds(type >= 0 && type < types);
        argument(type != 0);
        return keepVal(type, 0, null, List.of());
    }

    int make(int record, int first, int second) {
        bounds(record >= 0 && record < recs.size());
        Rec rec = recs.get(record);
        int[] given = {first, second};
        for (int f = 0; f < rec.fields.length; f++) {
            bounds(given[f] >= 0 && given[f] < vals.size());
        }
        List<Val> fields = new ArrayList<>();
        for (int f = 0; f < 2; f++) {
            if (f < rec.fields.length) {
                argument(vals.get(given[f]).type == rec.fields[f]);
                fields.add(vals.get(given[f]));
            } else {
                argument(given[f] == 0);
            }
        }
        return keepVal(rec.type, 0, rec, fields);
    }

    private int keepVal(int type, int number, Rec rec, List<Val> fields) {
        state(vals.size() < 40);
        vals.add(new Val(vals.size(), type, number, rec, fields));
        return vals.size() - 1;
    }

    int any(int type) {
        bounds(type >= 0 && type < types);
        return keepPat(new Pat("ANY", type, 0, 0, null, List.of()));
    }

    int name(int type, int name) {
        bounds(type >= 0 && type < types);
        argument(name >= 0 && name <= 3);
        return keepPat(new Pat("NAME", type, name, 0, null, List.of()));
    }

    int range(int low, int high) {
        argument(-99 <= low && low <= high && high <= 99);
        return keepPat(new Pat("RANGE", 0, low, high, null, List.of()));
    }

    int isNone(int type) {
        bounds(type >= 0 && type < types);
        argument(type != 0);
        return keepPat(new Pat("NULL", type, 0, 0, null, List.of()));
    }

    int isRecord(int record, int first, int second) {
        bounds(record >= 0 && record < recs.size());
        Rec rec = recs.get(record);
        int[] given = {first, second};
        for (int f = 0; f < rec.fields.length; f++) {
            bounds(given[f] >= 0 && given[f] < pats.size());
        }
        List<Pat> parts = new ArrayList<>();
        int names = 0;
        for (int f = 0; f < 2; f++) {
            if (f < rec.fields.length) {
                argument(pats.get(given[f]).type == rec.fields[f]);
                parts.add(pats.get(given[f]));
                names += pats.get(given[f]).names().size();
            } else {
                argument(given[f] == 0);
            }
        }
        Pat made = new Pat("RECORD", rec.type, 0, 0, rec, parts);
        argument(made.names().size() == names && made.deep() <= 3 && made.size() <= 6);
        return keepPat(made);
    }

    int either(int one, int other) {
        bounds(one >= 0 && one < pats.size() && other >= 0 && other < pats.size());
        Pat a = pats.get(one);
        Pat b = pats.get(other);
        Pat made = new Pat("EITHER", a.type, 0, 0, null, List.of(a, b));
        argument(a.type == b.type && a.names().equals(b.names()) && made.size() <= 6);
        return keepPat(made);
    }

    private int keepPat(Pat made) {
        state(pats.size() < 40);
        pats.add(made);
        return pats.size() - 1;
    }

    int add(int pattern, int guard, int number) {
        bounds(pattern >= 0 && pattern < pats.size());
        Pat pat = pats.get(pattern);
        argument(cases.isEmpty() || cases.get(0).pattern.type == pat.type);
        if (guard == -1) {
            argument(number == 0);
        } else {
            Integer on = pat.names().get(guard);
            argument(on != null && on == 0);
        }
        state(cases.size() < 6);
        cases.add(new Case(pat, pattern, guard, number));
        return cases.size() - 1;
    }

    int cut() {
        state(!cases.isEmpty());
        return cases.remove(cases.size() - 1).patternId;
    }

    // ---- matching

    int matches(int pattern, int value) {
        bounds(pattern >= 0 && pattern < pats.size() && value >= 0 && value < vals.size());
        argument(pats.get(pattern).type == vals.get(value).type);
        return match(pats.get(pattern), vals.get(value), 1, new TreeSet<>()) == null ? 0 : 1;
    }

    /** What the names are bound to; null, if it does not match. */
    private static Map<Integer, Val> match(Pat pat, Val val, int place, TreeSet<Integer> looked) {
        Map<Integer, Val> bound = new TreeMap<>();
        switch (pat.kind) {
            case "ANY":
                return place == 1 && val.isNull() ? null : bound;
            case "NAME":
                bound.put(pat.low, val);
                return place == 1 && val.isNull() ? null : bound;
            case "EITHER":
                Map<Integer, Val> first = match(pat.parts.get(0), val, place, looked);
                return first != null ? first : match(pat.parts.get(1), val, place, looked);
            case "RANGE":
                looked.add(place);
                return pat.low <= val.number && val.number <= pat.high ? bound : null;
            case "NULL":
                looked.add(place);
                return val.isNull() ? bound : null;
            default:
                looked.add(place);
                if (val.rec != pat.rec) {
                    return null;
                }
                for (int f = 0; f < pat.parts.size(); f++) {
                    Map<Integer, Val> more = match(pat.parts.get(f), val.fields.get(f), 2 * place + f, looked);
                    if (more == null) {
                        return null;
                    }
                    bound.putAll(more);
                }
                return bound;
        }
    }

    /** The case, how many places were looked at, and the values of names 0 to 3. */
    private int[] taken(Val val, int without) {
        TreeSet<Integer> looked = new TreeSet<>();
        for (int c = 0; c < cases.size(); c++) {
            Case tried = cases.get(c);
            if (c == without) {
                continue;
            }
            Map<Integer, Val> bound = match(tried.pattern, val, 1, looked);
            if (bound != null && (tried.guard == -1 || bound.get(tried.guard).number > tried.number)) {
                int[] told = {c, looked.size(), -1, -1, -1, -1};
                for (Map.Entry<Integer, Val> entry : bound.entrySet()) {
                    told[2 + entry.getKey()] = entry.getValue().id;
                }
                return told;
            }
        }
        return new int[] {val.isNull() ? -2 : -1, looked.size(), -1, -1, -1, -1};
    }

    private Val forCases(int value) {
        bounds(value >= 0 && value < vals.size());
        argument(cases.isEmpty() || cases.get(0).pattern.type == vals.get(value).type);
        return vals.get(value);
    }

    int takes(int value) {
        return taken(forCases(value), -1)[0];
    }

    int looks(int value) {
        return taken(forCases(value), -1)[1];
    }

    int bound(int value, int name) {
        Val val = forCases(value);
        argument(name >= 0 && name <= 3);
        return taken(val, -1)[2 + name];
    }

    int takesWithout(int number, int value) {
        bounds(number >= 0 && number < cases.size() && value >= 0 && value < vals.size());
        return taken(forCases(value), number)[0];
    }

    // ---- trees

    int compile() {
        state(!cases.isEmpty());
        Nodes made = nodes(false);
        if (made == null) {
            return -1;
        }
        compiled = made;
        return made.all.size();
    }

    int nodesBySmallest() {
        Nodes made = cases.isEmpty() ? null : nodes(true);
        return made == null ? -1 : made.all.size();
    }

    /** How many matrices would have to be worked on, if as many as one likes were allowed. */
    int matrices(boolean smallest) {
        return nodes(smallest, Integer.MAX_VALUE).worked;
    }

    private Nodes nodes(boolean smallest) {
        return nodes(smallest, 300);
    }

    private Nodes nodes(boolean smallest, int limit) {
        Nodes made = new Nodes();
        made.limit = limit;
        made.type = cases.get(0).pattern.type;
        made.recs = new ArrayList<>(recs);
        made.cases = new ArrayList<>(cases);
        made.smallest = smallest;
        List<Row> rows = new ArrayList<>();
        for (int c = 0; c < cases.size(); c++) {
            Row row = new Row(c);
            row.cells.put(1, cases.get(c).pattern);
            rows.add(row);
        }
        TreeMap<Integer, Integer> columns = new TreeMap<>();
        columns.put(1, made.type);
        try {
            work(made, rows, columns);
            return made;
        } catch (TooMany e) {
            return null;
        }
    }

    private static int work(Nodes made, List<Row> rows, TreeMap<Integer, Integer> columns) throws TooMany {
        if (++made.worked > made.limit) {
            throw new TooMany();
        }
        Node node = new Node();
        if (rows.isEmpty()) {
            node.kind = 0;
            return made.keep(node);
        }
        boolean first = columns.containsKey(1) && made.type != 0;
        Row ahead = rows.get(0);
        if (!first && ahead.open()) {
            Case taking = made.cases.get(ahead.number);
            node.about = ahead.number;
            if (taking.guard == -1) {
                node.kind = 1;
                return made.keep(node);
            }
            node.kind = 2;
            node.asked = taking;
            node.look = ahead.named.containsKey(taking.guard) ? ahead.named.get(taking.guard) : -1;
            for (Map.Entry<Integer, Pat> cell : ahead.cells.entrySet()) {
                if (cell.getValue().names().containsKey(taking.guard)) {
                    node.look = cell.getKey();
                }
            }
            List<Row> others = new ArrayList<>();
            for (Row row : rows) {
                if (row.number != ahead.number) {
                    others.add(row);
                }
            }
            node.labels.add(-3);
            node.targets.add(work(made, others, columns));
            return made.keep(node);
        }
        int place = first ? 1 : choose(rows, columns, made.smallest);
        node.kind = 3;
        node.about = place;
        List<Row> split = new ArrayList<>();
        for (Row row : rows) {
            sides(row, place, split);
        }
        if (columns.get(place) == 0) {
            numbers(made, node, split, columns, place);
        } else {
            heads(made, node, split, columns, place);
        }
        return made.keep(node);
    }

    private static int choose(List<Row> rows, TreeMap<Integer, Integer> columns, boolean smallest) {
        int best = 0;
        int most = 0;
        for (int place : columns.keySet()) {
            int weight = 0;
            while (weight < rows.size() && !rows.get(weight).cells.get(place).open()) {
                weight++;
            }
            if (smallest && weight > 0) {
                return place;
            }
            if (weight > most) {
                most = weight;
                best = place;
            }
        }
        return best;
    }

    private static void sides(Row row, int place, List<Row> into) {
        Pat cell = row.cells.get(place);
        if (!cell.kind.equals("EITHER")) {
            into.add(row);
            return;
        }
        for (Pat side : cell.parts) {
            Row one = row.copy();
            one.cells.put(place, side);
            sides(one, place, into);
        }
    }

    private static Row without(Row row, int place) {
        Row made = row.copy();
        Pat gone = made.cells.remove(place);
        if (gone.kind.equals("NAME")) {
            made.named.put(gone.low, place);
        }
        return made;
    }

    private static void numbers(Nodes made, Node node, List<Row> rows, TreeMap<Integer, Integer> columns,
            int place) throws TooMany {
        TreeMap<Integer, Integer> less = new TreeMap<>(columns);
        less.remove(place);
        List<Integer> before = null;
        for (int n = -99; n <= 99; n++) {
            List<Integer> which = new ArrayList<>();
            List<Row> left = new ArrayList<>();
            for (int r = 0; r < rows.size(); r++) {
                Pat cell = rows.get(r).cells.get(place);
                if (cell.open() || cell.low <= n && n <= cell.high) {
                    which.add(r);
                    left.add(without(rows.get(r), place));
                }
            }
            if (!which.equals(before)) {
                node.labels.add(n);
                node.targets.add(work(made, left, less));
            }
            before = which;
        }
    }

    private static void heads(Nodes made, Node node, List<Row> rows, TreeMap<Integer, Integer> columns,
            int place) throws TooMany {
        TreeMap<Integer, Integer> less = new TreeMap<>(columns);
        less.remove(place);
        List<Row> nulls = new ArrayList<>();
        List<Row> opens = new ArrayList<>();
        boolean hasNull = false;
        TreeSet<Integer> had = new TreeSet<>();
        for (Row row : rows) {
            Pat cell = row.cells.get(place);
            if (cell.kind.equals("NULL") || cell.open() && place != 1) {
                nulls.add(without(row, place));
            }
            hasNull |= cell.kind.equals("NULL");
            if (cell.open()) {
                opens.add(without(row, place));
            }
            if (cell.kind.equals("RECORD")) {
                had.add(cell.rec.number);
            }
        }
        node.labels.add(-1);
        Node end = new Node();
        end.kind = 4;
        node.targets.add(place == 1 && !hasNull ? made.keep(end) : work(made, nulls, less));
        for (int number : had) {
            Rec rec = made.recs.get(number);
            TreeMap<Integer, Integer> more = new TreeMap<>(less);
            for (int f = 0; f < rec.fields.length; f++) {
                more.put(2 * place + f, rec.fields[f]);
            }
            List<Row> left = new ArrayList<>();
            for (Row row : rows) {
                Pat cell = row.cells.get(place);
                if (cell.open() || cell.rec == rec) {
                    Row one = without(row, place);
                    for (int f = 0; f < rec.fields.length; f++) {
                        Pat any = new Pat("ANY", rec.fields[f], 0, 0, null, List.of());
                        one.cells.put(2 * place + f, cell.open() ? any : cell.parts.get(f));
                    }
                    left.add(one);
                }
            }
            node.labels.add(number);
            node.targets.add(work(made, left, more));
        }
        boolean all = true;
        for (Rec rec : made.recs) {
            all &= rec.type != columns.get(place) || had.contains(rec.number);
        }
        Node fresh = new Node();
        fresh.kind = 5;
        node.labels.add(-2);
        node.targets.add(opens.isEmpty() && all ? made.keep(fresh) : work(made, opens, less));
    }

    int ofNode(int node, int what) {
        bounds(compiled != null && node >= 0 && node < compiled.all.size());
        argument(what >= 0 && what <= 3);
        Node told = compiled.all.get(node);
        return what == 0 ? told.kind : what == 1 ? told.about : what == 2 ? told.labels.size() : told.longest;
    }

    int branch(int node, int branch, int what) {
        bounds(compiled != null && node >= 0 && node < compiled.all.size());
        Node told = compiled.all.get(node);
        bounds(branch >= 0 && branch < told.labels.size());
        argument(what == 0 || what == 1);
        return what == 0 ? told.targets.get(branch) : told.labels.get(branch);
    }

    private int[] walked(int value) {
        bounds(value >= 0 && value < vals.size());
        argument(compiled == null || vals.get(value).type == compiled.type);
        state(compiled != null);
        return walk(vals.get(value));
    }

    int[] walk(Val val) {
        Node node = compiled.all.get(compiled.all.size() - 1);
        int tests = 0;
        while (true) {
            int to = -1;
            switch (node.kind) {
                case 0: return new int[] {-1, tests};
                case 1: return new int[] {node.about, tests};
                case 4: return new int[] {-2, tests};
                case 5: return new int[] {-3, tests};
                case 2:
                    if (val.at(node.look).number > node.asked.number) {
                        return new int[] {node.about, tests};
                    }
                    to = node.targets.get(0);
                    break;
                default:
                    tests++;
                    Val at = val.at(node.about);
                    for (int b = 0; b < node.labels.size(); b++) {
                        int label = node.labels.get(b);
                        boolean fits = at.type == 0 ? label <= at.number
                                : label == -2 ? to == -1 : label == (at.isNull() ? -1 : at.rec.number);
                        to = fits ? node.targets.get(b) : to;
                    }
            }
            node = compiled.all.get(to);
        }
    }

    int down(int value) {
        return walked(value)[0];
    }

    int tests(int value) {
        return walked(value)[1];
    }

    double meanTests() {
        long sum = 0;
        int n = 0;
        for (Val val : vals) {
            if (compiled != null && val.type == compiled.type) {
                sum += walk(val)[1];
                n++;
            }
        }
        return n == 0 ? 0 : (double) sum / n;
    }

    // ---- all values

    private static final int TOO_MANY = 60000;

    /** All values on the type of the cases that differ for them, in their order; null, if too many. */
    List<Val> universe() {
        TreeSet<Integer> numbers = new TreeSet<>();
        numbers.add(-99);
        for (Case one : cases) {
            one.pattern.numbers(numbers);
        }
        return universe(cases.get(0).pattern.type, 1, numbers);
    }

    private List<Val> universe(int type, int level, TreeSet<Integer> numbers) {
        List<Val> all = new ArrayList<>();
        if (type == 0) {
            for (int n : numbers) {
                if (level <= 3 || all.isEmpty()) {
                    all.add(new Val(-1, 0, n, null, List.of()));
                }
            }
            return all;
        }
        all.add(new Val(-1, type, 0, null, List.of()));
        for (Rec rec : recs) {
            if (rec.type != type || level > 3) {
                continue;
            }
            List<List<Val>> fields = new ArrayList<>();
            long product = 1;
            for (int field : rec.fields) {
                List<Val> one = universe(field, level + 1, numbers);
                if (one == null) {
                    return null;
                }
                fields.add(one);
                product *= one.size();
            }
            if (product + all.size() > TOO_MANY) {
                return null;
            }
            if (fields.isEmpty()) {
                all.add(new Val(-1, type, 0, rec, List.of()));
            } else if (fields.size() == 1) {
                for (Val a : fields.get(0)) {
                    all.add(new Val(-1, type, 0, rec, List.of(a)));
                }
            } else {
                for (Val a : fields.get(0)) {
                    for (Val b : fields.get(1)) {
                        all.add(new Val(-1, type, 0, rec, List.of(a, b)));
                    }
                }
            }
        }
        return all;
    }

    boolean reached(int number, List<Val> all) {
        for (Val val : all) {
            if (match(cases.get(number).pattern, val, 1, new TreeSet<>()) != null
                    && !kept(val, number, -1)) {
                return true;
            }
        }
        return false;
    }

    Val missing(int without, List<Val> all) {
        int others = cases.size() - (without == -1 ? 0 : 1);
        for (Val val : all) {
            if (others > 0 && !val.isNull() && !kept(val, cases.size(), without)) {
                return val;
            }
        }
        return null;
    }

    /** Whether a case ahead of end, but that one, has no guard and matches it. */
    private boolean kept(Val val, int end, int without) {
        for (int c = 0; c < end; c++) {
            if (c != without && cases.get(c).guard == -1
                    && match(cases.get(c).pattern, val, 1, new TreeSet<>()) != null) {
                return true;
            }
        }
        return false;
    }

    static int told(Val missing, int place) {
        Val at = missing == null ? null : missing.at(place);
        return at == null ? -2 : at.type == 0 ? 1000 + at.number : at.isNull() ? -1 : at.rec.number;
    }

    int many(int what, List<Val> all) {
        argument(what >= 0 && what <= 10);
        int sum = 0;
        switch (what) {
            case 0: return types;
            case 1: return recs.size();
            case 2: return vals.size();
            case 3: return pats.size();
            case 4: return cases.size();
            case 5:
                for (int c = 0; c < cases.size(); c++) {
                    sum += reached(c, all) ? 1 : 0;
                }
                return sum;
            case 6: return !cases.isEmpty() && missing(-1, all) != null ? 1 : 0;
            case 7: return compiled == null ? 0 : compiled.all.size();
            case 8: return compiled == null ? 0 : compiled.worked;
            case 9:
                if (compiled != null) {
                    for (Node node : compiled.all) {
                        sum += node.kind == 3 ? 1 : 0;
                    }
                }
                return sum;
            default:
                for (Val val : vals) {
                    boolean counts = !cases.isEmpty() && cases.get(0).pattern.type == val.type;
                    sum += counts && taken(val, -1)[0] == -1 ? 1 : 0;
                }
                return sum;
        }
    }

    long digest(List<Val> all) {
        long d = 58142;
        for (int what = 0; what <= 10; what++) {
            d = d * 31 + many(what, all);
        }
        for (Val val : vals) {
            if (!cases.isEmpty() && cases.get(0).pattern.type == val.type) {
                for (int told : taken(val, -1)) {
                    d = d * 31 + told;
                }
            }
        }
        for (Val val : vals) {
            if (compiled != null && compiled.type == val.type) {
                d = (d * 31 + walk(val)[0]) * 31 + walk(val)[1];
            }
        }
        for (int n = 0; compiled != null && n < compiled.all.size(); n++) {
            for (int what = 0; what <= 3; what++) {
                d = d * 31 + ofNode(n, what);
            }
            for (int b = 0; b < ofNode(n, 2); b++) {
                d = (d * 31 + branch(n, b, 0)) * 31 + branch(n, b, 1);
            }
        }
        for (int c = 0; c < cases.size(); c++) {
            d = d * 31 + (reached(c, all) ? 1 : 0);
            d = d * 31 + (missing(c, all) != null ? 1 : 0);
        }
        Val missing = cases.isEmpty() ? null : missing(-1, all);
        for (int place = 1; place <= 15; place++) {
            d = d * 31 + told(missing, place);
        }
        return d * 31 + nodesBySmallest();
    }

    private static void bounds(boolean good) {
        if (!good) {
            throw new IndexOutOfBoundsException();
        }
    }

    private static void argument(boolean good) {
        if (!good) {
            throw new IllegalArgumentException();
        }
    }

    private static void state(boolean good) {
        if (!good) {
            throw new IllegalStateException();
        }
    }
}
