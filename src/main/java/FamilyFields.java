import java.util.ArrayList;
import java.util.Arrays;

/** Enumerations, records and sealed families, their objects, and the table in which objects outlive a build. */
public final class FamilyFields {
    public static final int NONE = -1, BAD = -1, STATE = -2, FULL = -3;

    private static final int MAX_ENUMERATIONS = 4, MAX_CONSTANTS = 8;
    private static final int MAX_RECORDS = 6, MAX_PARTS = 6, MAX_CHECKS = 4;
    private static final int MAX_FAMILIES = 3, MAX_MEMBERS = 4;
    private static final int MAX_LINES = 64, MAX_ITEMS = 16, LAST_BUILD = 1000;
    private static final int MAX_ROW_CALLS = 40, MAX_MAKE_CALLS = 100;
    /** Besides row() only load() makes rows: one at most of each part of each line. */
    private static final int MAX_ROWS = MAX_ROW_CALLS + MAX_LINES * MAX_PARTS;

    private static final int SORT_FLAG = 0, SORT_BYTE = 1, SORT_SHORT = 2, SORT_CHAR = 3, SORT_INT = 4, SORT_LONG = 5;
    private static final int SORT_FLOAT = 6, SORT_DOUBLE = 7;
    private static final int SORT_CONSTANT = 8, SORT_SET = 9, SORT_ROW = 10, SORT_OBJECT = 11;

    private static final int CHECK_BETWEEN = 0, CHECK_PRESENT = 1, CHECK_DIVIDES = 2, CHECK_SIZE = 3;
    private static final int CHECK_ITEM = 4, CHECK_OF_RECORD = 5, CHECK_LAID = 6;

    private static final int FINE = 0, CODE_ARGUMENT = 1, CODE_NULL = 2, CODE_ZERO = 3, CODE_SIZE = 4, CODE_INDEX = 5;
    private static final int CODE_CAST = 6, CODE_STORE = 7, CODE_UNKNOWN = 8, CODE_INIT = 9, CODE_NOT = 10;

    private static final int WAY_ONCE = 0, WAY_TWICE = 1, WAY_PLAIN = 2;
    /** In the list of who started, an enumeration stands as this and its number. */
    private static final int ENUMERATION_MARK = 10;
    private static final long[] NOTHING = {};

    private final Types types;
    private final Heap heap;
    private final Table table;
    private final long[] draft;
    /** The draft as a record's parts read it; make() uses the same row each time. */
    private final long[] reading;

    public FamilyFields() {
        types = new Types();
        heap = new Heap(types);
        table = new Table(types, heap);
        draft = new long[MAX_PARTS];
        reading = new long[MAX_PARTS];
    }

    // ---- types

    public int enumeration() {
        if (hasObjects()) return STATE;
        if (types.enumerations.size() >= MAX_ENUMERATIONS) return FULL;
        types.enumerations.add(new Enumeration());
        return types.enumerations.size() - 1;
    }

    public int constant(int enumeration, long name, boolean bodied) {
        if (!types.isEnumeration(enumeration) || !Bits.isName(name)) return BAD;
        Enumeration type = types.enumerations.get(enumeration);
        if (type.ordinalOf(name) != NONE) return BAD;
        if (hasObjects()) return STATE;
        if (type.constants >= MAX_CONSTANTS) return FULL;
        return type.addConstant(name, bodied);
    }

    public int exchange(int enumeration, int a, int b) {
        if (!types.isConstant(enumeration, a) || !types.isConstant(enumeration, b)) return BAD;
        if (hasObjects()) return STATE;
        types.enumerations.get(enumeration).swapConstants(a, b);
        return 1;
    }

    public int forget(int enumeration, int constant) {
        if (!types.isConstant(enumeration, constant)) return BAD;
        if (hasObjects()) return STATE;
        Enumeration type = types.enumerations.get(enumeration);
        type.dropConstant(constant);
        return type.constants;
    }

    public int fails(int enumeration, boolean is) {
        if (!types.isEnumeration(enumeration)) return BAD;
        if (hasObjects()) return STATE;
        Enumeration type = types.enumerations.get(enumeration);
        int before = type.failing ? 1 : 0;
        type.failing = is;
        return before;
    }

    public int family() {
        if (hasObjects()) return STATE;
        if (types.families.size() >= MAX_FAMILIES) return FULL;
        types.families.add(new Family());
        return types.families.size() - 1;
    }

    public int permit(int family, boolean isFamily, int member) {
        if (!types.isFamily(family)) return BAD;
        boolean fits = isFamily ? member >= 0 && member < family : types.isRecord(member);
        if (!fits) return BAD;
        Family type = types.families.get(family);
        if (type.hasMember(isFamily, member)) return BAD;
        if (hasObjects()) return STATE;
        if (type.memberCount >= MAX_MEMBERS) return FULL;
        type.addMember(isFamily, member);
        types.recountLeaves();
        return type.memberCount;
    }

    public int record() {
        if (hasObjects()) return STATE;
        if (types.records.size() >= MAX_RECORDS) return FULL;
        types.records.add(new RecordType());
        return types.records.size() - 1;
    }

    public int part(int record, long name, int sort, int of, long standard) {
        if (!types.isRecord(record) || !Bits.isName(name) || !types.isSortOf(sort, of)) return BAD;
        RecordType type = types.records.get(record);
        if (type.hasPartNamed(name)) return BAD;
        if (hasObjects()) return STATE;
        if (type.parts.size() >= MAX_PARTS) return FULL;
        Part added = new Part(name);
        added.becomeOf(sort, of, standard);
        type.parts.add(added);
        return type.parts.size() - 1;
    }

    public int without(int record, int part) {
        if (!types.isPart(record, part)) return BAD;
        if (hasObjects()) return STATE;
        RecordType type = types.records.get(record);
        type.dropPart(part);
        return type.parts.size();
    }

    public int becomes(int record, int part, int sort, int of) {
        if (!types.isPart(record, part) || !types.isSortOf(sort, of)) return BAD;
        if (hasObjects()) return STATE;
        RecordType type = types.records.get(record);
        Part changed = type.parts.get(part);
        int before = changed.sort;
        changed.becomeOf(sort, of, 0L);
        type.dropChecksOf(part);
        return before;
    }

    public int check(int record, int part, int check, long a, long b) {
        if (!types.isPart(record, part)) return BAD;
        RecordType type = types.records.get(record);
        if (!type.parts.get(part).takesCheck(check)) return BAD;
        if (hasObjects()) return STATE;
        if (type.checkCount >= MAX_CHECKS) return FULL;
        type.addCheck(part, check, a, b);
        return type.checkCount;
    }

    public int build() {
        if (table.buildNumber >= LAST_BUILD) return FULL;
        int objects = heap.thingCount;
        heap.clearAll();
        types.stopAll();
        table.beginBuild();
        return objects;
    }

    // ---- rows

    public int row(int lane, int n) {
        if (!Bits.isLane(lane) || n > MAX_ITEMS) return BAD;
        if (heap.rowCalls >= MAX_ROW_CALLS) return FULL;
        if (n < 0) return thrown(CODE_SIZE);
        heap.rowCalls++;
        return heap.addRow(lane, n);
    }

    public int put(int row, int i, long bits) {
        if (!heap.isRow(row)) return BAD;
        if (!heap.hasItem(row, i)) return thrown(CODE_INDEX);
        heap.items[row][i] = Bits.valueOf(heap.lanes[row], bits);
        return 1;
    }

    public long item(int row, int i) {
        return heap.hasItem(row, i) ? heap.items[row][i] : 0L;
    }

    public int size(int row) {
        return heap.isRow(row) ? heap.lengths[row] : BAD;
    }

    // ---- objects

    public int give(int k, long bits) {
        if (k < 0 || k >= MAX_PARTS) return BAD;
        draft[k] = bits;
        return 1;
    }

    public int make(int record) {
        if (!types.isRecord(record)) return BAD;
        ArrayList<Part> parts = types.records.get(record).parts;
        for (int p = 0; p < parts.size(); p++) {
            Part part = parts.get(p);
            if (!heap.isValue(part, draft[p])) return BAD;
            reading[p] = Bits.valueOf(part.sort, draft[p]);
        }
        if (heap.makeCalls >= MAX_MAKE_CALLS) return FULL;
        int made = heap.makeThing(record, reading, NONE);
        if (made >= 0) heap.makeCalls++;
        return made;
    }

    public int cause(int what) {
        return what >= 0 && what < heap.cause.length ? heap.cause[what] : Integer.MIN_VALUE;
    }

    public long told(int object, int part) {
        if (!heap.isThing(object)) return Long.MIN_VALUE;
        Thing thing = heap.things.get(object);
        return types.isPart(thing.record, part) ? thing.bits[part] : Long.MIN_VALUE;
    }

    public int of(int object) {
        return heap.isThing(object) ? heap.things.get(object).record : BAD;
    }

    public int tag(int object, int family) {
        if (!heap.isThing(object) || !types.isFamily(family)) return BAD;
        return types.families.get(family).tagOf(heap.things.get(object).record);
    }

    public int same(int a, int b) {
        if (!heap.isThing(a) || !heap.isThing(b)) return BAD;
        heap.likenUpTo(Math.max(a, b));
        return heap.things.get(a).likeness == heap.things.get(b).likeness ? 1 : 0;
    }

    // ---- constants

    public int named(int enumeration, long name) {
        if (!types.isEnumeration(enumeration)) return BAD;
        int code = types.startEnumeration(enumeration);
        if (code != FINE) return thrown(code);
        int ordinal = types.enumerations.get(enumeration).ordinalOf(name);
        return ordinal == NONE ? thrown(CODE_UNKNOWN) : ordinal;
    }

    public long work(int enumeration, int constant, int way, int n) {
        if (!types.isConstant(enumeration, constant) || way < WAY_ONCE || way > WAY_PLAIN) return Long.MIN_VALUE;
        int code = types.startEnumeration(enumeration);
        if (code != FINE) return Long.MIN_VALUE + code;
        Enumeration type = types.enumerations.get(enumeration);
        if (way == WAY_ONCE) return type.workOnce(constant, n);
        if (way == WAY_TWICE) return type.workTwice(constant, n);
        return n + constant;
    }

    public int started(int i) {
        return i >= 0 && i < types.startCount ? types.starts[i] : NONE;
    }

    // ---- the table

    public int keep(int object) {
        return heap.isThing(object) ? table.keepThing(object) : BAD;
    }

    public int load(int line) {
        return table.isLine(line) ? table.loadLine(line) : BAD;
    }

    public int line(int line, int what) {
        if (!table.isLine(line)) return BAD;
        Line asked = table.lines.get(line);
        switch (what) {
            case 0: return asked.record;
            case 1: return asked.build;
            case 2: return asked.kept.size();
            case 3: return asked.loaded;
            default: return BAD;
        }
    }

    public int word(long part, long name, int i) {
        table.markWord(part, name);
        return table.pickMarked(i);
    }

    public int range(long part, int enumeration, int low, int high, int i) {
        if (!types.isEnumeration(enumeration)) return NONE;
        table.markRange(part, enumeration, low, high);
        return table.pickMarked(i);
    }

    public int count(int what) {
        switch (what) {
            case 0: return types.enumerations.size();
            case 1: return types.records.size();
            case 2: return types.families.size();
            case 3: return heap.rowCount;
            case 4: return heap.thingCount;
            case 5: return table.lines.size();
            case 6: return table.buildNumber;
            case 7: return table.leftOut;
            default: return BAD;
        }
    }

    public int about(int type, int what) {
        switch (what) {
            case 0: return types.isEnumeration(type) ? types.enumerations.get(type).constants : BAD;
            case 1: return types.isRecord(type) ? types.records.get(type).parts.size() : BAD;
            case 2: return types.isRecord(type) ? types.records.get(type).checkCount : BAD;
            case 3: return types.isFamily(type) ? types.families.get(type).memberCount : BAD;
            case 4: return types.isFamily(type) ? types.families.get(type).leafCount : BAD;
            default: return BAD;
        }
    }

    private boolean hasObjects() {
        return heap.thingCount > 0;
    }

    private static int thrown(int code) {
        return -10 - code;
    }

    /** Bits and what they stand for. Floats and doubles stay bits throughout, since no float may be told its bits. */
    private static final class Bits {
        private static final int FLOAT_FRACTION = 23, FLOAT_BIAS = 127, FLOAT_TOP = 255;
        private static final int DOUBLE_FRACTION = 52, DOUBLE_BIAS = 1023;
        private static final int FLOAT_NO_NUMBER = 0x7fc00000, FLOAT_INFINITE = 0x7f800000;
        private static final long DOUBLE_NO_NUMBER = 0x7ff8000000000000L, DOUBLE_INFINITE = 0x7ff0000000000000L;

        static boolean isName(long name) {
            for (int i = 0; i < 8; i++) {
                long rest = name >>> (8 * i);
                if (rest == 0) return i > 0;
                long letter = rest & 0xff;
                if (letter < 'a' || letter > 'z') return false;
            }
            return true;
        }

        static boolean isLane(int lane) {
            return lane >= SORT_FLAG && lane <= SORT_DOUBLE;
        }

        /** What a sort makes of bits; bits that say the same value come out alike. */
        static long valueOf(int sort, long bits) {
            switch (sort) {
                case SORT_FLAG: return bits != 0 ? 1 : 0;
                case SORT_BYTE: return (byte) bits;
                case SORT_SHORT: return (short) bits;
                case SORT_CHAR: return (char) bits;
                case SORT_INT: return (int) bits;
                case SORT_FLOAT: return isNoFloat((int) bits) ? FLOAT_NO_NUMBER : (int) bits;
                case SORT_DOUBLE: return isNoNumber(bits) ? DOUBLE_NO_NUMBER : bits;
                default: return bits;
            }
        }

        static boolean widens(int from, int to) {
            return from >= SORT_BYTE && from < to && to <= SORT_DOUBLE && to != SORT_CHAR;
        }

        static long widened(int from, int to, long bits) {
            if (from == to || to <= SORT_LONG) return bits;
            if (from == SORT_FLOAT) return doubleOfFloat((int) bits);
            return to == SORT_FLOAT ? floatOfLong(bits) : doubleOfLong(bits);
        }

        static boolean isBetween(int sort, long bits, long low, long high) {
            if (sort < SORT_FLOAT) return low <= bits && bits <= high;
            long asDouble = sort == SORT_FLOAT ? doubleOfFloat((int) bits) : bits;
            if (isNoNumber(asDouble)) return false;
            long place = placeOf(asDouble);
            return placeOf(doubleOfLong(low)) <= place && place <= placeOf(doubleOfLong(high));
        }

        private static boolean isNoFloat(int bits) {
            return (bits & Integer.MAX_VALUE) > FLOAT_INFINITE;
        }

        private static boolean isNoNumber(long bits) {
            return (bits & Long.MAX_VALUE) > DOUBLE_INFINITE;
        }

        /** A long that lies among others as the double does among doubles; both zeros have one place. */
        private static long placeOf(long bits) {
            return bits < 0 ? -(bits & Long.MAX_VALUE) : bits;
        }

        private static long floatOfLong(long value) {
            long size = roundedSize(value, FLOAT_FRACTION, FLOAT_BIAS);
            return value < 0 ? (int) size | Integer.MIN_VALUE : (int) size;
        }

        private static long doubleOfLong(long value) {
            long size = roundedSize(value, DOUBLE_FRACTION, DOUBLE_BIAS);
            return value < 0 ? size | Long.MIN_VALUE : size;
        }

        /** Exponent and fraction of the nearest number, of two as near the even one, without its sign. */
        private static long roundedSize(long value, int fraction, int bias) {
            if (value == 0) return 0;
            // The least long stays itself here, which is its size if read without a sign.
            long size = value < 0 ? -value : value;
            int top = 63 - Long.numberOfLeadingZeros(size);
            long exponent = (long) (top + bias - 1) << fraction;
            if (top <= fraction) return exponent + (size << (fraction - top));
            int lost = top - fraction;
            long digits = size >>> lost;
            long rest = size & ((1L << lost) - 1);
            long half = 1L << (lost - 1);
            if (rest > half || rest == half && (digits & 1) == 1) digits++;
            // The leading digit, and a carry beyond it, count the exponent up.
            return exponent + digits;
        }

        private static long doubleOfFloat(int bits) {
            long sign = bits < 0 ? Long.MIN_VALUE : 0;
            int exponent = bits >>> FLOAT_FRACTION & FLOAT_TOP;
            long fraction = bits & (1 << FLOAT_FRACTION) - 1;
            if (exponent == FLOAT_TOP) return fraction == 0 ? sign | DOUBLE_INFINITE : DOUBLE_NO_NUMBER;
            if (exponent > 0) {
                long wide = exponent - FLOAT_BIAS + DOUBLE_BIAS;
                return sign | wide << DOUBLE_FRACTION | fraction << (DOUBLE_FRACTION - FLOAT_FRACTION);
            }
            if (fraction == 0) return sign;
            // Floats too small for a leading digit have one as doubles: the fraction as a number, scaled down.
            long scale = (long) (FLOAT_BIAS - 1 + FLOAT_FRACTION) << DOUBLE_FRACTION;
            return sign | roundedSize(fraction, DOUBLE_FRACTION, DOUBLE_BIAS) - scale;
        }
    }

    private static final class Enumeration {
        final long[] names = new long[MAX_CONSTANTS];
        final boolean[] bodied = new boolean[MAX_CONSTANTS];
        int constants;
        boolean failing;
        boolean hasStarted;
        boolean hasFailed;

        int ordinalOf(long name) {
            for (int i = 0; i < constants; i++) {
                if (names[i] == name) return i;
            }
            return NONE;
        }

        int addConstant(long name, boolean isBodied) {
            names[constants] = name;
            bodied[constants] = isBodied;
            constants++;
            return constants - 1;
        }

        void swapConstants(int a, int b) {
            long name = names[a];
            names[a] = names[b];
            names[b] = name;
            boolean body = bodied[a];
            bodied[a] = bodied[b];
            bodied[b] = body;
        }

        void dropConstant(int ordinal) {
            for (int i = ordinal; i + 1 < constants; i++) swapConstants(i, i + 1);
            constants--;
        }

        int workOnce(int ordinal, int n) {
            int sum = n + ordinal;
            return bodied[ordinal] ? 3 * sum - 1 : sum;
        }

        int workTwice(int ordinal, int n) {
            int first = workOnce(ordinal, n);
            return bodied[ordinal] && (ordinal & 1) == 1 ? n - first : workOnce(ordinal, first);
        }

        /** The names of the constants whose bits stand in a set. */
        long[] namesIn(long set) {
            long[] found = new long[Long.bitCount(set)];
            int at = 0;
            for (int i = 0; i < constants; i++) {
                if ((set >>> i & 1) == 1 && at < found.length) {
                    found[at] = names[i];
                    at++;
                }
            }
            return found;
        }
    }

    private static final class Part {
        final long name;
        int sort;
        int of;
        /** What the part is where nothing was kept of it. */
        long standard;

        Part(long name) {
            this.name = name;
        }

        void becomeOf(int newSort, int newOf, long bits) {
            sort = newSort;
            of = newOf;
            if (Bits.isLane(newSort)) standard = Bits.valueOf(newSort, bits);
            else standard = newSort == SORT_SET ? 0 : NONE;
        }

        boolean takesCheck(int check) {
            switch (check) {
                case CHECK_BETWEEN: return sort <= SORT_DOUBLE;
                case CHECK_PRESENT: return sort == SORT_CONSTANT || sort == SORT_ROW || sort == SORT_OBJECT;
                case CHECK_DIVIDES: return sort >= SORT_BYTE && sort <= SORT_LONG;
                case CHECK_SIZE: return sort >= SORT_BYTE && sort <= SORT_INT;
                case CHECK_ITEM: return sort == SORT_ROW;
                case CHECK_OF_RECORD: return sort == SORT_OBJECT;
                case CHECK_LAID: return sort == SORT_CONSTANT;
                default: return false;
            }
        }

        boolean usesEnumeration(long bits) {
            return sort == SORT_CONSTANT && bits != NONE || sort == SORT_SET && bits != 0;
        }

        boolean isObject(long bits) {
            return sort == SORT_OBJECT && bits != NONE;
        }
    }

    private static final class RecordType {
        final ArrayList<Part> parts = new ArrayList<>();
        final int[] checkPart = new int[MAX_CHECKS];
        final int[] checkKind = new int[MAX_CHECKS];
        final long[] checkA = new long[MAX_CHECKS];
        final long[] checkB = new long[MAX_CHECKS];
        int checkCount;
        boolean hasStarted;

        boolean hasPartNamed(long name) {
            for (int p = 0; p < parts.size(); p++) {
                if (parts.get(p).name == name) return true;
            }
            return false;
        }

        void dropPart(int part) {
            dropChecksOf(part);
            parts.remove(part);
            for (int c = 0; c < checkCount; c++) {
                if (checkPart[c] > part) checkPart[c]--;
            }
        }

        void addCheck(int part, int kind, long a, long b) {
            checkPart[checkCount] = part;
            checkKind[checkCount] = kind;
            checkA[checkCount] = a;
            checkB[checkCount] = b;
            checkCount++;
        }

        void dropChecksOf(int part) {
            int before = checkCount;
            checkCount = 0;
            for (int c = 0; c < before; c++) {
                if (checkPart[c] != part) addCheck(checkPart[c], checkKind[c], checkA[c], checkB[c]);
            }
        }
    }

    private static final class Family {
        final int[] members = new int[MAX_MEMBERS];
        final boolean[] memberIsFamily = new boolean[MAX_MEMBERS];
        int memberCount;
        final int[] leaves = new int[MAX_RECORDS];
        int leafCount;

        boolean hasMember(boolean isFamily, int member) {
            for (int m = 0; m < memberCount; m++) {
                if (members[m] == member && memberIsFamily[m] == isFamily) return true;
            }
            return false;
        }

        void addMember(boolean isFamily, int member) {
            members[memberCount] = member;
            memberIsFamily[memberCount] = isFamily;
            memberCount++;
        }

        int tagOf(int record) {
            for (int i = 0; i < leafCount; i++) {
                if (leaves[i] == record) return i;
            }
            return NONE;
        }

        void addLeaf(int record) {
            if (tagOf(record) != NONE || leafCount >= MAX_RECORDS) return;
            leaves[leafCount] = record;
            leafCount++;
        }
    }

    /** The types there are, and who of them has started in this build. */
    private static final class Types {
        final ArrayList<Enumeration> enumerations = new ArrayList<>();
        final ArrayList<RecordType> records = new ArrayList<>();
        final ArrayList<Family> families = new ArrayList<>();
        final int[] starts = new int[MAX_RECORDS + MAX_ENUMERATIONS];
        int startCount;

        boolean isEnumeration(int number) {
            return number >= 0 && number < enumerations.size();
        }

        boolean isConstant(int enumeration, int ordinal) {
            return isEnumeration(enumeration) && ordinal >= 0 && ordinal < enumerations.get(enumeration).constants;
        }

        boolean isRecord(int number) {
            return number >= 0 && number < records.size();
        }

        boolean isPart(int record, int number) {
            return isRecord(record) && number >= 0 && number < records.get(record).parts.size();
        }

        boolean isFamily(int number) {
            return number >= 0 && number < families.size();
        }

        boolean isSortOf(int sort, int of) {
            switch (sort) {
                case SORT_CONSTANT:
                case SORT_SET: return isEnumeration(of);
                case SORT_ROW: return Bits.isLane(of);
                case SORT_OBJECT: return isFamily(of);
                default: return Bits.isLane(sort);
            }
        }

        /** From the lowest family on, so that the leaves of the families in a family are there already. */
        void recountLeaves() {
            for (int f = 0; f < families.size(); f++) {
                Family family = families.get(f);
                family.leafCount = 0;
                for (int m = 0; m < family.memberCount; m++) addLeavesOf(family, m);
            }
        }

        private void addLeavesOf(Family family, int m) {
            int member = family.members[m];
            if (!family.memberIsFamily[m]) {
                family.addLeaf(member);
                return;
            }
            Family inner = families.get(member);
            for (int i = 0; i < inner.leafCount; i++) family.addLeaf(inner.leaves[i]);
        }

        void startRecord(int number) {
            RecordType type = records.get(number);
            if (type.hasStarted) return;
            type.hasStarted = true;
            noteStart(number);
        }

        /** The code by which the start failed, or FINE. */
        int startEnumeration(int number) {
            Enumeration type = enumerations.get(number);
            if (type.hasStarted) return FINE;
            if (type.hasFailed) return CODE_NOT;
            if (type.failing) {
                type.hasFailed = true;
                return CODE_INIT;
            }
            type.hasStarted = true;
            noteStart(ENUMERATION_MARK + number);
            return FINE;
        }

        private void noteStart(int who) {
            if (startCount >= starts.length) return;
            starts[startCount] = who;
            startCount++;
        }

        void stopAll() {
            startCount = 0;
            for (int r = 0; r < records.size(); r++) records.get(r).hasStarted = false;
            for (int e = 0; e < enumerations.size(); e++) {
                enumerations.get(e).hasStarted = false;
                enumerations.get(e).hasFailed = false;
            }
        }
    }

    /** An object; its parts that are objects were made ahead of it, so they have lower numbers. */
    private static final class Thing {
        final long[] bits = new long[MAX_PARTS];
        int record;
        /** The line as which it was kept in this build. */
        int line;
        /** The lowest object that is the same as this one; known of the first objects, as far as it was asked for. */
        int likeness;
        /** While lines are counted: it is to be kept. */
        boolean wanted;
    }

    /** The rows and objects of this build; what a build leaves behind is used again by the next. */
    private static final class Heap {
        final Types types;
        final int[] lanes = new int[MAX_ROWS];
        final int[] lengths = new int[MAX_ROWS];
        final long[][] items = new long[MAX_ROWS][];
        int rowCount;
        int rowCalls;
        final ArrayList<Thing> things = new ArrayList<>();
        int thingCount;
        private int likenedCount;
        int makeCalls;
        /** Code, record, part, check and line of the latest failure. */
        final int[] cause = {FINE, NONE, NONE, NONE, NONE};

        Heap(Types types) {
            this.types = types;
        }

        void clearAll() {
            rowCount = 0;
            rowCalls = 0;
            thingCount = 0;
            likenedCount = 0;
            makeCalls = 0;
        }

        boolean isRow(long number) {
            return number >= 0 && number < rowCount;
        }

        boolean hasItem(long row, long i) {
            return isRow(row) && i >= 0 && i < lengths[(int) row];
        }

        boolean isThing(long number) {
            return number >= 0 && number < thingCount;
        }

        int addRow(int lane, int length) {
            if (rowCount >= MAX_ROWS) return NONE;
            if (items[rowCount] == null) items[rowCount] = new long[MAX_ITEMS];
            Arrays.fill(items[rowCount], 0L);
            lanes[rowCount] = lane;
            lengths[rowCount] = length;
            rowCount++;
            return rowCount - 1;
        }

        /** Whether bits that came from outside say something that the part can be. */
        boolean isValue(Part part, long bits) {
            switch (part.sort) {
                case SORT_CONSTANT: return bits >= NONE && bits < types.enumerations.get(part.of).constants;
                case SORT_SET: return bits >= 0 && bits < 1L << types.enumerations.get(part.of).constants;
                case SORT_ROW: return bits == NONE || isRow(bits) && lanes[(int) bits] == part.of;
                case SORT_OBJECT: return bits == NONE || isThing(bits) && isThingOf((int) bits, part.of);
                default: return true;
            }
        }

        boolean isThingOf(int thing, int family) {
            return types.families.get(family).tagOf(things.get(thing).record) != NONE;
        }

        /** The number of the object; or, if it can't be made, -10 less the code. */
        int makeThing(int record, long[] bits, int line) {
            types.startRecord(record);
            RecordType type = types.records.get(record);
            for (int p = 0; p < type.parts.size(); p++) {
                Part part = type.parts.get(p);
                int code = part.usesEnumeration(bits[p]) ? types.startEnumeration(part.of) : FINE;
                if (code != FINE) return fail(code, record, p, NONE, line);
            }
            for (int c = 0; c < type.checkCount; c++) {
                int code = codeOfCheck(type, c, bits);
                if (code != FINE) return fail(code, record, type.checkPart[c], c, line);
            }
            return addThing(record, bits);
        }

        int fail(int code, int record, int part, int check, int line) {
            cause[0] = code;
            cause[1] = record;
            cause[2] = part;
            cause[3] = check;
            cause[4] = line;
            return thrown(code);
        }

        private int codeOfCheck(RecordType type, int c, long[] bits) {
            Part part = type.parts.get(type.checkPart[c]);
            long value = bits[type.checkPart[c]];
            long a = type.checkA[c];
            switch (type.checkKind[c]) {
                case CHECK_BETWEEN: return Bits.isBetween(part.sort, value, a, type.checkB[c]) ? FINE : CODE_ARGUMENT;
                case CHECK_PRESENT: return value == NONE ? CODE_NULL : FINE;
                case CHECK_DIVIDES: return value == 0 ? CODE_ZERO : FINE;
                case CHECK_SIZE: return value % 8 < 0 ? CODE_SIZE : FINE;
                case CHECK_ITEM:
                    if (value == NONE) return CODE_NULL;
                    return hasItem(value, a) ? FINE : CODE_INDEX;
                case CHECK_OF_RECORD: return isThing(value) && things.get((int) value).record != a ? CODE_CAST : FINE;
                case CHECK_LAID: return isPlainConstant(part.of, value) ? CODE_STORE : FINE;
                default: return FINE;
            }
        }

        private boolean isPlainConstant(int enumeration, long ordinal) {
            return ordinal != NONE && !types.enumerations.get(enumeration).bodied[(int) ordinal];
        }

        private int addThing(int record, long[] bits) {
            if (thingCount >= things.size()) things.add(new Thing());
            Thing thing = things.get(thingCount);
            thing.record = record;
            System.arraycopy(bits, 0, thing.bits, 0, MAX_PARTS);
            thing.line = NONE;
            thingCount++;
            return thingCount - 1;
        }

        /** From the lowest on, so that comparing two objects needs no way down through the objects in their parts. */
        void likenUpTo(int number) {
            for (int t = likenedCount; t <= number && t < thingCount; t++) {
                things.get(t).likeness = likenessOf(t);
                likenedCount = t + 1;
            }
        }

        private int likenessOf(int number) {
            for (int t = 0; t < number; t++) {
                if (things.get(t).likeness == t && areAlike(things.get(t), things.get(number))) return t;
            }
            return number;
        }

        private boolean areAlike(Thing a, Thing b) {
            if (a.record != b.record) return false;
            ArrayList<Part> parts = types.records.get(a.record).parts;
            for (int p = 0; p < parts.size(); p++) {
                Part part = parts.get(p);
                if (likeBits(part, a.bits[p]) != likeBits(part, b.bits[p])) return false;
            }
            return true;
        }

        private long likeBits(Part part, long bits) {
            return part.isObject(bits) && isThing(bits) ? things.get((int) bits).likeness : bits;
        }
    }

    /** A part as it was kept. */
    private static final class Kept {
        final long name;
        final int sort;
        final int of;
        /** The value of a number or flag, the line of an object; of others NONE only if it was none. */
        final long value;
        /** The names of constants, the items of a row. */
        final long[] content;
        /** The row that was made of it in this build. */
        int madeRow;

        Kept(Part part, long value, long[] content) {
            this.name = part.name;
            this.sort = part.sort;
            this.of = part.of;
            this.value = value;
            this.content = content;
            this.madeRow = NONE;
        }

        boolean hasConstants() {
            return sort == SORT_CONSTANT || sort == SORT_SET;
        }

        boolean goesTo(Part part) {
            if (sort == part.sort) return sort <= SORT_DOUBLE || sort == SORT_OBJECT || of == part.of;
            if (sort == SORT_CONSTANT && part.sort == SORT_SET) return of == part.of;
            return Bits.widens(sort, part.sort);
        }
    }

    private static final class Line {
        final int record;
        final int build;
        final ArrayList<Kept> kept = new ArrayList<>();
        /** The object as which it is loaded in this build. */
        int loaded;
        /** While it is being loaded: its parts below nextPart have their bits. */
        int nextPart;
        final long[] bits = new long[MAX_PARTS];

        Line(int record, int build) {
            this.record = record;
            this.build = build;
            this.loaded = NONE;
        }

        /** What was kept of a name, or null. */
        Kept keptAs(long name) {
            for (int k = 0; k < kept.size(); k++) {
                if (kept.get(k).name == name) return kept.get(k);
            }
            return null;
        }

        void unload() {
            loaded = NONE;
            for (int k = 0; k < kept.size(); k++) kept.get(k).madeRow = NONE;
        }
    }

    private static final class Table {
        /** Each turn of a walk opens or ends an object or line, and each is opened once. */
        private static final int MAX_TURNS = 2 * MAX_LINES;

        final Types types;
        final Heap heap;
        final ArrayList<Line> lines = new ArrayList<>();
        int buildNumber;
        int leftOut;
        /** The objects or lines that wait for those in their parts. */
        private final int[] open = new int[MAX_LINES];
        private final boolean[] marked = new boolean[MAX_LINES];

        Table(Types types, Heap heap) {
            this.types = types;
            this.heap = heap;
        }

        boolean isLine(long number) {
            return number >= 0 && number < lines.size();
        }

        void beginBuild() {
            buildNumber++;
            for (int l = 0; l < lines.size(); l++) lines.get(l).unload();
        }

        int keepThing(int object) {
            if (lines.size() + countUnkept(object) > MAX_LINES) return FULL;
            int depth = 1;
            open[0] = object;
            for (int turn = 0; turn < MAX_TURNS && depth > 0; turn++) {
                Thing top = heap.things.get(open[depth - 1]);
                int inner = unkeptPart(top);
                if (inner != NONE && depth < MAX_LINES) {
                    open[depth] = inner;
                    depth++;
                } else {
                    if (top.line == NONE) addLine(top);
                    depth--;
                }
            }
            return heap.things.get(object).line;
        }

        /** How many lines an object needs. Its parts have lower numbers than it has, so one way down finds them all. */
        private int countUnkept(int object) {
            for (int t = 0; t <= object; t++) heap.things.get(t).wanted = t == object;
            int unkept = 0;
            for (int t = object; t >= 0; t--) {
                Thing thing = heap.things.get(t);
                if (!thing.wanted || thing.line != NONE) continue;
                unkept++;
                ArrayList<Part> parts = types.records.get(thing.record).parts;
                for (int p = 0; p < parts.size(); p++) {
                    if (parts.get(p).isObject(thing.bits[p])) heap.things.get((int) thing.bits[p]).wanted = true;
                }
            }
            return unkept;
        }

        /** The object of the first part that is not kept yet. */
        private int unkeptPart(Thing thing) {
            ArrayList<Part> parts = types.records.get(thing.record).parts;
            for (int p = 0; p < parts.size(); p++) {
                if (!parts.get(p).isObject(thing.bits[p])) continue;
                int inner = (int) thing.bits[p];
                if (heap.things.get(inner).line == NONE) return inner;
            }
            return NONE;
        }

        private void addLine(Thing thing) {
            Line line = new Line(thing.record, buildNumber);
            ArrayList<Part> parts = types.records.get(thing.record).parts;
            for (int p = 0; p < parts.size(); p++) line.kept.add(keptOf(parts.get(p), thing.bits[p]));
            thing.line = lines.size();
            lines.add(line);
        }

        private Kept keptOf(Part part, long bits) {
            long value = part.isObject(bits) ? heap.things.get((int) bits).line : bits;
            return new Kept(part, value, contentOf(part, bits));
        }

        private long[] contentOf(Part part, long bits) {
            if (part.usesEnumeration(bits)) {
                long set = part.sort == SORT_SET ? bits : 1L << bits;
                return types.enumerations.get(part.of).namesIn(set);
            }
            if (part.sort == SORT_ROW && heap.isRow(bits)) {
                return Arrays.copyOf(heap.items[(int) bits], heap.lengths[(int) bits]);
            }
            return NOTHING;
        }

        int loadLine(int number) {
            if (lines.get(number).loaded != NONE) return lines.get(number).loaded;
            int depth = 1;
            open[0] = number;
            lines.get(number).nextPart = 0;
            for (int turn = 0; turn < MAX_TURNS && depth > 0; turn++) {
                int top = open[depth - 1];
                int inner = fillParts(top);
                if (inner < NONE) return inner;
                if (inner != NONE && depth < MAX_LINES) {
                    open[depth] = inner;
                    lines.get(inner).nextPart = 0;
                    depth++;
                } else {
                    int made = heap.makeThing(lines.get(top).record, lines.get(top).bits, top);
                    if (made < 0) return made;
                    lines.get(top).loaded = made;
                    depth--;
                }
            }
            return lines.get(number).loaded;
        }

        /** NONE if all parts have their bits; a line that must be loaded ahead; or -10 less a code. */
        private int fillParts(int number) {
            Line line = lines.get(number);
            ArrayList<Part> parts = types.records.get(line.record).parts;
            for (int p = line.nextPart; p < parts.size(); p++) {
                line.nextPart = p;
                Part part = parts.get(p);
                Kept kept = line.keptAs(part.name);
                int ahead = kept == null ? NONE : unloadedLine(part, kept);
                if (ahead != NONE) return ahead;
                int code = kept == null ? fillStandard(line, part) : fillKept(line, part, kept);
                if (code != FINE) return heap.fail(code, line.record, p, NONE, number);
            }
            return NONE;
        }

        private int unloadedLine(Part part, Kept kept) {
            boolean isLoadable = kept.sort == SORT_OBJECT && part.isObject(kept.value) && isLine(kept.value);
            return isLoadable && lines.get((int) kept.value).loaded == NONE ? (int) kept.value : NONE;
        }

        private int fillStandard(Line line, Part part) {
            line.bits[line.nextPart] = part.standard;
            return FINE;
        }

        /** The code by which the part can't be filled, or FINE. */
        private int fillKept(Line line, Part part, Kept kept) {
            if (!kept.goesTo(part)) return CODE_CAST;
            long bits;
            switch (part.sort) {
                case SORT_CONSTANT:
                    bits = constantOf(kept);
                    if (bits == NONE && kept.value != NONE) return CODE_UNKNOWN;
                    break;
                case SORT_SET:
                    bits = setOf(kept);
                    break;
                case SORT_ROW:
                    bits = rowOf(kept);
                    break;
                case SORT_OBJECT:
                    bits = isLine(kept.value) ? lines.get((int) kept.value).loaded : NONE;
                    if (heap.isThing(bits) && !heap.isThingOf((int) bits, part.of)) return CODE_CAST;
                    break;
                default:
                    bits = Bits.widened(kept.sort, part.sort, kept.value);
            }
            line.bits[line.nextPart] = bits;
            return FINE;
        }

        private int constantOf(Kept kept) {
            return kept.content.length > 0 ? types.enumerations.get(kept.of).ordinalOf(kept.content[0]) : NONE;
        }

        private long setOf(Kept kept) {
            long set = 0;
            for (int i = 0; i < kept.content.length; i++) {
                int ordinal = types.enumerations.get(kept.of).ordinalOf(kept.content[i]);
                if (ordinal == NONE) leftOut++;
                else set |= 1L << ordinal;
            }
            return set;
        }

        private int rowOf(Kept kept) {
            if (kept.value == NONE) return NONE;
            if (kept.madeRow == NONE) {
                int row = heap.addRow(kept.of, kept.content.length);
                if (row == NONE) return NONE;
                System.arraycopy(kept.content, 0, heap.items[row], 0, kept.content.length);
                kept.madeRow = row;
            }
            return kept.madeRow;
        }

        void markWord(long part, long name) {
            for (int l = 0; l < lines.size(); l++) {
                Kept kept = lines.get(l).keptAs(part);
                marked[l] = false;
                if (kept == null || !kept.hasConstants()) continue;
                for (int i = 0; i < kept.content.length; i++) marked[l] |= kept.content[i] == name;
            }
        }

        void markRange(long part, int enumeration, int low, int high) {
            for (int l = 0; l < lines.size(); l++) {
                Kept kept = lines.get(l).keptAs(part);
                marked[l] = false;
                if (kept == null || !kept.hasConstants() || kept.of != enumeration) continue;
                for (int i = 0; i < kept.content.length; i++) {
                    int ordinal = types.enumerations.get(enumeration).ordinalOf(kept.content[i]);
                    marked[l] |= ordinal != NONE && low <= ordinal && ordinal <= high;
                }
            }
        }

        /** The i-th marked line; with i = -1 how many there are. */
        int pickMarked(int i) {
            int found = 0;
            for (int l = 0; l < lines.size(); l++) {
                if (!marked[l]) continue;
                if (found == i) return l;
                found++;
            }
            return i == -1 ? found : NONE;
        }
    }
}
