import java.util.ArrayList;
import java.util.LinkedHashMap;
import java.util.List;
import java.util.Map;
import java.util.TreeSet;

/** The document told a second time, with recursion, exceptions and the machine's own floats, to compare runs with. */
final class PlainModel {
    private static final class Thrown extends RuntimeException {
        private static final long serialVersionUID = 1L;
        final int code;
        Thrown(int code) { this.code = code; }
    }

    private static final class Constant { long name; boolean bodied; }
    private static final class Enumeration { List<Constant> constants = new ArrayList<>(); boolean fails; }
    private static final class Check { Part part; int kind; long a, b; }
    private static final class Part { long name; int sort, of; Object standard; }
    private static final class Rec { List<Part> parts = new ArrayList<>(); List<Check> checks = new ArrayList<>(); }
    private static final class Family { List<Object> members = new ArrayList<>(); }
    private static final class Row { int lane; Object[] items; }
    private static final class Obj { Rec rec; Object[] values; }
    private static final class Kept { int sort, of; Object value; Row row; }
    private static final class Line { Rec rec; int build; Map<Long, Kept> parts = new LinkedHashMap<>(); }

    private final List<Enumeration> enumerations = new ArrayList<>();
    private final List<Rec> records = new ArrayList<>();
    private final List<Family> families = new ArrayList<>();
    private final List<Line> lines = new ArrayList<>();
    private final long[] draft = new long[6];
    private List<Row> rows = new ArrayList<>();
    private List<Obj> objects = new ArrayList<>();
    private List<Object> started = new ArrayList<>();
    private List<Object> broken = new ArrayList<>();
    private Map<Obj, Line> lineOf = new LinkedHashMap<>();
    private Map<Line, Obj> objectOf = new LinkedHashMap<>();
    private int rowCalls, makeCalls, build, leftOut;
    private int[] cause = {0, -1, -1, -1, -1};

    private static <T> boolean in(List<T> list, long i) { return 0 <= i && i < list.size(); }
    private boolean state() { return !objects.isEmpty(); }

    private static boolean isName(long name) {
        StringBuilder text = new StringBuilder();
        for (long rest = name; rest != 0; rest >>>= 8) text.append((char) (rest & 0xff));
        return text.toString().matches("[a-z]{1,8}");
    }

    // ---- types
    int enumeration() {
        if (state()) return -2;
        if (enumerations.size() == 4) return -3;
        enumerations.add(new Enumeration());
        return enumerations.size() - 1;
    }

    int constant(int e, long name, boolean bodied) {
        if (!in(enumerations, e) || !isName(name) || ordinal(e, name) >= 0) return -1;
        if (state()) return -2;
        List<Constant> cs = enumerations.get(e).constants;
        if (cs.size() == 8) return -3;
        Constant c = new Constant();
        c.name = name;
        c.bodied = bodied;
        cs.add(c);
        return cs.size() - 1;
    }

    private int ordinal(int e, long name) {
        List<Constant> cs = enumerations.get(e).constants;
        for (Constant c : cs) if (c.name == name) return cs.indexOf(c);
        return -1;
    }

    private boolean isConstant(int e, long c) { return in(enumerations, e) && in(enumerations.get(e).constants, c); }

    int exchange(int e, int a, int b) {
        if (!isConstant(e, a) || !isConstant(e, b)) return -1;
        if (state()) return -2;
        java.util.Collections.swap(enumerations.get(e).constants, a, b);
        return 1;
    }

    int forget(int e, int c) {
        if (!isConstant(e, c)) return -1;
        if (state()) return -2;
        enumerations.get(e).constants.remove(c);
        return enumerations.get(e).constants.size();
    }

    int fails(int e, boolean is) {
        if (!in(enumerations, e)) return -1;
        if (state()) return -2;
        boolean before = enumerations.get(e).fails;
        enumerations.get(e).fails = is;
        return before ? 1 : 0;
    }

    int family() {
        if (state()) return -2;
        if (families.size() == 3) return -3;
        families.add(new Family());
        return families.size() - 1;
    }

    int permit(int f, boolean isFamily, int member) {
        if (!in(families, f)) return -1;
        if (isFamily ? member < 0 || member >= f : !in(records, member)) return -1;
        Object m = isFamily ? families.get(member) : records.get(member);
        List<Object> members = families.get(f).members;
        if (members.contains(m)) return -1;
        if (state()) return -2;
        if (members.size() == 4) return -3;
        members.add(m);
        return members.size();
    }

    private List<Rec> leaves(Family f) {
        List<Rec> found = new ArrayList<>();
        for (Object m : f.members) {
            List<Rec> more = m instanceof Family inner ? leaves(inner) : List.of((Rec) m);
            for (Rec r : more) if (!found.contains(r)) found.add(r);
        }
        return found;
    }

    int record() {
        if (state()) return -2;
        if (records.size() == 6) return -3;
        records.add(new Rec());
        return records.size() - 1;
    }

    private boolean sortOf(int sort, int of) {
        if (sort == 8 || sort == 9) return in(enumerations, of);
        if (sort == 10) return of >= 0 && of < 8;
        if (sort == 11) return in(families, of);
        return sort >= 0 && sort < 8;
    }

    private static void set(Part p, int sort, int of, long standard) {
        p.sort = sort;
        p.of = of;
        p.standard = sort < 8 ? value(sort, standard) : sort == 9 ? new TreeSet<Integer>() : null;
    }

    int part(int r, long name, int sort, int of, long standard) {
        if (!in(records, r) || !isName(name) || !sortOf(sort, of)) return -1;
        List<Part> parts = records.get(r).parts;
        for (Part p : parts) if (p.name == name) return -1;
        if (state()) return -2;
        if (parts.size() == 6) return -3;
        Part p = new Part();
        p.name = name;
        set(p, sort, of, standard);
        parts.add(p);
        return parts.size() - 1;
    }

    private boolean isPart(int r, int p) { return in(records, r) && in(records.get(r).parts, p); }

    int without(int r, int p) {
        if (!isPart(r, p)) return -1;
        if (state()) return -2;
        Part gone = records.get(r).parts.remove(p);
        records.get(r).checks.removeIf(c -> c.part == gone);
        return records.get(r).parts.size();
    }

    int becomes(int r, int p, int sort, int of) {
        if (!isPart(r, p) || !sortOf(sort, of)) return -1;
        if (state()) return -2;
        Part part = records.get(r).parts.get(p);
        int before = part.sort;
        set(part, sort, of, 0);
        records.get(r).checks.removeIf(c -> c.part == part);
        return before;
    }

    int check(int r, int p, int kind, long a, long b) {
        String[] sorts = {"0,1,2,3,4,5,6,7,", "8,10,11,", "1,2,3,4,5,", "1,2,3,4,", "10,", "11,", "8,"};
        if (!isPart(r, p) || kind < 0 || kind > 6) return -1;
        Part part = records.get(r).parts.get(p);
        if (!("," + sorts[kind]).contains("," + part.sort + ",")) return -1;
        if (state()) return -2;
        if (records.get(r).checks.size() == 4) return -3;
        Check c = new Check();
        c.part = part;
        c.kind = kind;
        c.a = a;
        c.b = b;
        records.get(r).checks.add(c);
        return records.get(r).checks.size();
    }

    int build() {
        if (build == 1000) return -3;
        int were = objects.size();
        rows = new ArrayList<>();
        objects = new ArrayList<>();
        started = new ArrayList<>();
        broken = new ArrayList<>();
        lineOf = new LinkedHashMap<>();
        objectOf = new LinkedHashMap<>();
        for (Line l : lines) for (Kept k : l.parts.values()) k.row = null;
        rowCalls = 0;
        makeCalls = 0;
        build++;
        return were;
    }

    // ---- values
    private static Object value(int lane, long bits) {
        switch (lane) {
            case 0: return bits != 0;
            case 1: return (byte) bits;
            case 2: return (short) bits;
            case 3: return (char) bits;
            case 4: return (int) bits;
            case 5: return bits;
            case 6: return Float.intBitsToFloat((int) bits);
            default: return Double.longBitsToDouble(bits);
        }
    }

    private long bits(Object v) {
        if (v == null) return -1;
        if (v instanceof Boolean b) return b ? 1 : 0;
        if (v instanceof Character c) return c;
        if (v instanceof Float f) return Float.floatToIntBits(f);
        if (v instanceof Double d) return Double.doubleToLongBits(d);
        if (v instanceof Number n) return n.longValue();
        if (v instanceof Row r) return at(rows, r);
        if (v instanceof Obj o) return at(objects, o);
        long sum = 0;
        for (Object c : (TreeSet<?>) v) sum += 1L << (Integer) c;
        return sum;
    }

    private static int at(List<?> list, Object x) {
        for (int i = 0; i < list.size(); i++) if (list.get(i) == x) return i;
        return -1;
    }

    // ---- rows
    int row(int lane, int n) {
        if (lane < 0 || lane > 7 || n > 16) return -1;
        if (rowCalls == 40) return -3;
        if (n < 0) return -14;
        rowCalls++;
        Row row = new Row();
        row.lane = lane;
        row.items = new Object[n];
        java.util.Arrays.fill(row.items, value(lane, 0));
        rows.add(row);
        return rows.size() - 1;
    }

    int put(int r, int i, long bits) {
        if (!in(rows, r)) return -1;
        Row row = rows.get(r);
        if (i < 0 || i >= row.items.length) return -15;
        row.items[i] = value(row.lane, bits);
        return 1;
    }

    long item(int r, int i) {
        if (!in(rows, r) || i < 0 || i >= rows.get(r).items.length) return 0;
        return bits(rows.get(r).items[i]);
    }

    int size(int r) { return in(rows, r) ? rows.get(r).items.length : -1; }

    // ---- objects
    int give(int k, long bits) {
        if (k < 0 || k > 5) return -1;
        draft[k] = bits;
        return 1;
    }

    /** What the draft's bits say of a part, in a box; null if they are BAD. */
    private Object[] drafted(Part p, long bits) {
        if (p.sort < 8) return new Object[] {value(p.sort, bits)};
        if (p.sort == 9) {
            TreeSet<Integer> set = new TreeSet<>();
            for (int i = 0; i < 64; i++) {
                if ((bits >>> i & 1) == 0) continue;
                if (!isConstant(p.of, i)) return null;
                set.add(i);
            }
            return new Object[] {set};
        }
        if (bits == -1) return new Object[] {null};
        if (p.sort == 8) return isConstant(p.of, bits) ? new Object[] {(int) bits} : null;
        if (p.sort == 10) {
            return in(rows, bits) && rows.get((int) bits).lane == p.of ? new Object[] {rows.get((int) bits)} : null;
        }
        if (!in(objects, bits) || !leaves(families.get(p.of)).contains(objects.get((int) bits).rec)) return null;
        return new Object[] {objects.get((int) bits)};
    }

    int make(int r) {
        if (!in(records, r)) return -1;
        Rec rec = records.get(r);
        Object[] values = new Object[rec.parts.size()];
        for (int i = 0; i < values.length; i++) {
            Object[] box = drafted(rec.parts.get(i), draft[i]);
            if (box == null) return -1;
            values[i] = box[0];
        }
        if (makeCalls == 100) return -3;
        try {
            construct(rec, values, -1);
        } catch (Thrown t) {
            return -10 - t.code;
        }
        makeCalls++;
        return objects.size() - 1;
    }

    private Thrown because(int code, Rec rec, Part part, int check, int line) {
        cause = new int[] {code, at(records, rec), at(rec.parts, part), check, line};
        return new Thrown(code);
    }

    private void start(Object type) {
        if (at(started, type) >= 0) return;
        if (at(broken, type) >= 0) throw new Thrown(10);
        if (type instanceof Enumeration e && e.fails) {
            broken.add(e);
            throw new Thrown(9);
        }
        started.add(type);
    }

    private Obj construct(Rec rec, Object[] values, int line) {
        start(rec);
        for (int i = 0; i < values.length; i++) {
            Part p = rec.parts.get(i);
            boolean needs = p.sort == 8 && values[i] != null || p.sort == 9 && !((TreeSet<?>) values[i]).isEmpty();
            if (!needs) continue;
            try {
                start(enumerations.get(p.of));
            } catch (Thrown t) {
                throw because(t.code, rec, p, -1, line);
            }
        }
        for (int c = 0; c < rec.checks.size(); c++) {
            Check check = rec.checks.get(c);
            int code = failing(check, values[at(rec.parts, check.part)]);
            if (code != 0) throw because(code, rec, check.part, c, line);
        }
        Obj o = new Obj();
        o.rec = rec;
        o.values = values;
        objects.add(o);
        return o;
    }

    private int failing(Check c, Object v) {
        switch (c.kind) {
            case 0:
                if (v instanceof Float || v instanceof Double) {
                    double d = ((Number) v).doubleValue();
                    return d >= (double) c.a && d <= (double) c.b ? 0 : 1;
                }
                return bits(v) >= c.a && bits(v) <= c.b ? 0 : 1;
            case 1: return v == null ? 2 : 0;
            case 2: return bits(v) == 0 ? 3 : 0;
            case 3: return Math.floorMod(bits(v), 8L) != 0 && bits(v) < 0 ? 4 : 0;
            case 4: return v == null ? 2 : c.a < 0 || c.a >= ((Row) v).items.length ? 5 : 0;
            case 5: return v != null && at(records, ((Obj) v).rec) != c.a ? 6 : 0;
            default: return v != null && !enumerations.get(c.part.of).constants.get((Integer) v).bodied ? 7 : 0;
        }
    }

    int cause(int what) { return what < 0 || what > 4 ? Integer.MIN_VALUE : cause[what]; }

    long told(int o, int p) {
        if (!in(objects, o) || p < 0 || p >= objects.get(o).values.length) return Long.MIN_VALUE;
        return bits(objects.get(o).values[p]);
    }

    int of(int o) { return in(objects, o) ? at(records, objects.get(o).rec) : -1; }

    int tag(int o, int f) {
        return in(objects, o) && in(families, f) ? at(leaves(families.get(f)), objects.get(o).rec) : -1;
    }

    int same(int a, int b) {
        if (!in(objects, a) || !in(objects, b)) return -1;
        return alike(objects.get(a), objects.get(b)) ? 1 : 0;
    }

    private boolean alike(Obj a, Obj b) {
        if (a.rec != b.rec) return false;
        for (int i = 0; i < a.values.length; i++) {
            Object v = a.values[i], w = b.values[i];
            boolean are = v instanceof Obj p && w instanceof Obj q ? alike(p, q) : bits(v) == bits(w);
            if (!are) return false;
        }
        return true;
    }

    // ---- constants
    int named(int e, long name) {
        if (!in(enumerations, e)) return -1;
        try {
            start(enumerations.get(e));
        } catch (Thrown t) {
            return -10 - t.code;
        }
        return ordinal(e, name) < 0 ? -18 : ordinal(e, name);
    }

    long work(int e, int c, int way, int n) {
        if (!isConstant(e, c) || way < 0 || way > 2) return Long.MIN_VALUE;
        try {
            start(enumerations.get(e));
        } catch (Thrown t) {
            return Long.MIN_VALUE + t.code;
        }
        boolean bodied = enumerations.get(e).constants.get(c).bodied;
        int once = bodied ? (n + c) * 3 - 1 : n + c;
        if (way == 0) return once;
        if (way == 2) return n + c;
        if (bodied) return c % 2 == 1 ? n - once : (once + c) * 3 - 1;
        return once + c;
    }

    int started(int i) {
        if (!in(started, i)) return -1;
        Object who = started.get(i);
        return who instanceof Rec ? at(records, who) : 10 + at(enumerations, who);
    }

    // ---- the table
    private void collect(Obj o, List<Obj> order) {
        if (lineOf.containsKey(o) || order.contains(o)) return;
        for (Object v : o.values) if (v instanceof Obj inner) collect(inner, order);
        order.add(o);
    }

    int keep(int number) {
        if (!in(objects, number)) return -1;
        List<Obj> order = new ArrayList<>();
        collect(objects.get(number), order);
        if (lines.size() + order.size() > 64) return -3;
        for (Obj o : order) {
            Line line = new Line();
            line.rec = o.rec;
            line.build = build;
            for (int i = 0; i < o.values.length; i++) line.parts.put(o.rec.parts.get(i).name, kept(o.rec.parts.get(i), o.values[i]));
            lineOf.put(o, line);
            lines.add(line);
        }
        return at(lines, lineOf.get(objects.get(number)));
    }

    private Kept kept(Part p, Object v) {
        Kept k = new Kept();
        k.sort = p.sort;
        k.of = p.of;
        k.value = v;
        if (p.sort == 8 && v != null) k.value = enumerations.get(p.of).constants.get((Integer) v).name;
        if (p.sort == 9) {
            List<Long> names = new ArrayList<>();
            for (Object c : (TreeSet<?>) v) names.add(enumerations.get(p.of).constants.get((Integer) c).name);
            k.value = names;
        }
        if (v instanceof Row r) k.value = r.items.clone();
        if (v instanceof Obj o) k.value = lineOf.get(o);
        return k;
    }

    int load(int l) {
        if (!in(lines, l)) return -1;
        try {
            return at(objects, loaded(lines.get(l)));
        } catch (Thrown t) {
            return -10 - t.code;
        }
    }

    private Obj loaded(Line line) {
        if (objectOf.containsKey(line)) return objectOf.get(line);
        Object[] values = new Object[line.rec.parts.size()];
        for (int i = 0; i < values.length; i++) values[i] = loaded(line, line.rec.parts.get(i));
        Obj o = construct(line.rec, values, at(lines, line));
        objectOf.put(line, o);
        return o;
    }

    private Object loaded(Line line, Part p) {
        Kept k = line.parts.get(p.name);
        if (k == null) return p.standard;
        if (!goes(k, p)) throw because(6, line.rec, p, -1, at(lines, line));
        if (p.sort < 8) return widened(k.value, p.sort);
        if (p.sort == 9) {
            List<?> names = k.value == null ? List.of() : k.value instanceof List<?> list ? list : List.of(k.value);
            TreeSet<Integer> set = new TreeSet<>();
            for (Object name : names) {
                if (ordinal(p.of, (Long) name) < 0) leftOut++;
                else set.add(ordinal(p.of, (Long) name));
            }
            return set;
        }
        if (k.value == null) return null;
        if (p.sort == 8) {
            int o = ordinal(p.of, (Long) k.value);
            if (o < 0) throw because(8, line.rec, p, -1, at(lines, line));
            return o;
        }
        if (p.sort == 10) {
            if (k.row == null) {
                k.row = new Row();
                k.row.lane = p.of;
                k.row.items = ((Object[]) k.value).clone();
                rows.add(k.row);
            }
            return k.row;
        }
        Obj o = loaded((Line) k.value);
        if (!leaves(families.get(p.of)).contains(o.rec)) throw because(6, line.rec, p, -1, at(lines, line));
        return o;
    }

    private static boolean goes(Kept k, Part p) {
        String[] to = {"", " 2 4 5 6 7 ", " 4 5 6 7 ", " 4 5 6 7 ", " 5 6 7 ", " 6 7 ", " 7 ", "", " 9 ", "", "", ""};
        if (k.sort != p.sort && !to[k.sort].contains(" " + p.sort + " ")) return false;
        return k.sort < 8 || k.sort == 11 || k.of == p.of;
    }

    private static Object widened(Object v, int sort) {
        if (v instanceof Boolean) return v;
        if (v instanceof Character c) v = sort == 3 ? v : (Object) (int) c;
        if (sort == 3) return v;
        Number n = (Number) v;
        switch (sort) {
            case 1: return n.byteValue();
            case 2: return n.shortValue();
            case 4: return n.intValue();
            case 5: return n.longValue();
            case 6: return n.floatValue();
            default: return n.doubleValue();
        }
    }

    int line(int l, int what) {
        if (!in(lines, l) || what < 0 || what > 3) return -1;
        Line line = lines.get(l);
        int[] told = {at(records, line.rec), line.build, line.parts.size(), at(objects, objectOf.get(line))};
        return told[what];
    }

    private static List<?> words(Kept k) {
        if (k == null || k.value == null || k.sort != 8 && k.sort != 9) return List.of();
        return k.value instanceof List<?> list ? list : List.of(k.value);
    }

    private static int pick(List<Integer> found, int i) { return i == -1 ? found.size() : in(found, i) ? found.get(i) : -1; }

    int word(long part, long name, int i) {
        List<Integer> found = new ArrayList<>();
        for (Line l : lines) if (words(l.parts.get(part)).contains(name)) found.add(at(lines, l));
        return pick(found, i);
    }

    int range(long part, int e, int low, int high, int i) {
        if (!in(enumerations, e)) return -1;
        List<Integer> found = new ArrayList<>();
        for (Line l : lines) {
            Kept k = l.parts.get(part);
            boolean has = false;
            for (Object name : words(k)) {
                int o = ordinal(e, (Long) name);
                has |= k.of == e && o >= 0 && o >= low && o <= high;
            }
            if (has) found.add(at(lines, l));
        }
        return pick(found, i);
    }

    int count(int what) {
        int[] told = {enumerations.size(), records.size(), families.size(), rows.size(), objects.size(), lines.size(), build, leftOut};
        return what < 0 || what > 7 ? -1 : told[what];
    }

    int about(int type, int what) {
        if (what == 0) return in(enumerations, type) ? enumerations.get(type).constants.size() : -1;
        if (what == 1) return in(records, type) ? records.get(type).parts.size() : -1;
        if (what == 2) return in(records, type) ? records.get(type).checks.size() : -1;
        if (what == 3) return in(families, type) ? families.get(type).members.size() : -1;
        if (what == 4) return in(families, type) ? leaves(families.get(type)).size() : -1;
        return -1;
    }
}
