import java.util.ArrayList;
import java.util.Arrays;

/** A checker of types for a small language. */
public final class Hornbook {

    private static final int MOST_SORTS = 12;
    private static final int MOST_TYPES = 60;
    private static final int MOST_METHODS = 30;
    private static final int MOST_EXPRESSIONS = 40;
    private static final int MOST_PARENTS = 2;
    private static final int MOST_PARAMETERS = 2;
    private static final int NAMES = 10;
    private static final int DEEPEST_TOLD = 4;

    /** How a PARAMETER is; a place in a TYPE stands OUTWARD as OUT, INWARD as IN. */
    private static final int FIXED = 0;
    private static final int OUT = 1;
    private static final int IN = 2;

    /** ANY in a LINE; NOTHING, the OWN TYPE and the PARAMETERS follow downwards. */
    private static final int ANY = -1;

    /** What stands in a TYPE, one bit each; the bits for the SORTS follow. A TYPE with none of OPEN is CLOSED. */
    private static final int HAS_FIRST = 1;
    private static final int HAS_SECOND = 2;
    private static final int HAS_OWN = 4;
    private static final int OPEN = HAS_FIRST | HAS_SECOND | HAS_OWN;
    private static final int HAS_SORT = 8;

    private static final int NONE = -1;
    private static final int NO_PLACE = -9;
    private static final int GREATEST_INT = 0x7fffffff;

    private static final int VALUE = 0;
    private static final int EITHER = 1;
    private static final int AS = 2;
    private static final int CALL = 3;
    /** An EXPRESSION is judged again with all room that there is, if it wanted more than was left. */
    private static final int ATTEMPTS = 2;

    private static final int NONE_SEEN = 1;
    private static final int NONE_TAKES = 2;
    private static final int NONE_BEST = 3;
    private static final int NOT_UNDER = 4;

    private static final int BAD_PARENT = 1;
    private static final int MIXED_ROAD = 2;
    private static final int BAD_METHOD = 3;

    private static final int NO = 0;
    private static final int YES = 1;

    private static final int LEAVES = 5;
    private static final int TYPES_A_HEAD = 4;
    /** Once so many TYPES are in use, those that nobody needs are given back. */
    private static final int FIRST_LIMIT = 1 << 13;
    private static final int LAST_LIMIT = 1 << 18;
    private static final int CROWDED_LIMIT = 3 << 16;
    /** If so many are needed, it is no more worth while to look for others. */
    private static final int FULL = 230000;
    private static final int MOST_KEPT = 280000;
    private static final int FIRST_SLOTS = 256;
    private static final int MOST_SLOTS = 1 << 19;
    /** Far above what a question needs, as each pair is remembered. */
    private static final int MOST_STEPS = 1 << 25;

    /** How many bits the number of a TYPE has at most. */
    private static final int NUMBER_BITS = 20;
    private static final long SPREAD = 0x9E3779B97F4A7C15L;
    private static final int SPREAD_FIRST = 0x85EBCA6B;
    private static final int SPREAD_SECOND = 0xC2B2AE35;

    /** Told TYPES are at most 4 deep; a guard for what goes down in one. */
    private static final int MOST_LEVELS = 20;

    private static final long DIGEST_START = 58064L;
    private static final int DIGEST_FACTOR = 31;

    private final ArrayList<Sort> sorts = new ArrayList<>();
    private final ArrayList<Expression> expressions = new ArrayList<>();
    private final Chooser chooser = new Chooser();
    private final ArrayList<Method> methods = chooser.methods;
    private final Room room = chooser.room;
    private final ArrayList<Type> types = room.told;
    private final Road road = new Road();
    private final Flaws noted = new Flaws();
    /** The EXPRESSIONS with smaller numbers are judged as all that was told has it. */
    private int judged = 0;
    private boolean isNoted = true;

    public Hornbook() {
    }

    // ---- what is told: each call that adds something tells its number

    public int sort(int many, int first, int second) throws IllegalArgumentException, IllegalStateException {
        boolean isGood = many >= 0 && many <= MOST_PARAMETERS
                && (many < 1 || isHow(first)) && (many < 2 || isHow(second));
        if (!isGood) throw new IllegalArgumentException("no such PARAMETERS");
        if (sorts.size() >= MOST_SORTS) throw new IllegalStateException("no more SORTS");
        Sort told = new Sort();
        told.number = sorts.size();
        told.many = many;
        told.howOne = many < 1 ? FIXED : first;
        told.howOther = many < 2 ? FIXED : second;
        told.above = 1 << told.number;
        sorts.add(told);
        isNoted = false;
        return told.number;
    }

    public int parent(int sort, int type)
            throws IndexOutOfBoundsException, IllegalArgumentException, IllegalStateException {
        needSort(sort);
        needType(type);
        Sort child = sorts.get(sort);
        Type told = types.get(type);
        boolean isGood = told.of != null && told.marks < HAS_SORT << sort && !has(told, barredFrom(child, false));
        if (!isGood) throw new IllegalArgumentException("no PARENT for this SORT");
        if (child.second != null) throw new IllegalStateException("no more PARENTS");
        boolean isFirst = child.first == null;
        if (isFirst) child.first = told;
        else child.second = told;
        lookUp();
        room.forget();
        unjudge();
        isNoted = false;
        return isFirst ? 1 : MOST_PARENTS;
    }

    public int type(int sort, int one, int other)
            throws IndexOutOfBoundsException, IllegalArgumentException, IllegalStateException {
        needSort(sort);
        needTypeOrNone(one);
        needTypeOrNone(other);
        Sort of = sorts.get(sort);
        needInOrder(one, other);
        int many = (one == NONE ? 0 : 1) + (other == NONE ? 0 : 1);
        if (many != of.many) throw new IllegalArgumentException("not as many as the PARAMETERS");
        Type first = typeOrNone(one);
        Type second = typeOrNone(other);
        boolean isTooDeep = depthOf(first) >= DEEPEST_TOLD || depthOf(second) >= DEEPEST_TOLD;
        if (isTooDeep) throw new IllegalArgumentException("too deep");
        needSpaceForType();
        makeSpace();
        types.add(room.make(of, first, second));
        return types.size() - 1;
    }

    public int parameter(int which) throws IllegalArgumentException, IllegalStateException {
        if (which != 0 && which != 1) throw new IllegalArgumentException("no such PARAMETER");
        needSpaceForType();
        types.add(which == 0 ? room.firstParameter : room.secondParameter);
        return types.size() - 1;
    }

    public int method(int sort, int name, int one, int other, int result, boolean isGeneral)
            throws IndexOutOfBoundsException, IllegalArgumentException, IllegalStateException {
        needSort(sort);
        needTypeOrNone(one);
        needTypeOrNone(other);
        needType(result);
        needName(name);
        needInOrder(one, other);
        Sort of = sorts.get(sort);
        Type first = typeOrNone(one);
        Type second = typeOrNone(other);
        Type last = types.get(result);
        int barred = barredFrom(of, isGeneral);
        boolean isBarred = has(first, barred) || has(second, barred) || has(last, barred);
        if (isBarred) throw new IllegalArgumentException("in one is what the METHOD must not use");
        if (methods.size() >= MOST_METHODS) throw new IllegalStateException("no more METHODS");
        Method told = new Method();
        told.number = methods.size();
        told.sort = of;
        told.name = name;
        told.one = first;
        told.other = second;
        told.result = last;
        told.isGeneral = isGeneral;
        methods.add(told);
        unjudge();
        isNoted = false;
        return told.number;
    }

    public int value(int type) throws IndexOutOfBoundsException, IllegalArgumentException, IllegalStateException {
        needType(type);
        needClosed(type);
        return addExpression(VALUE, null, null, null, 0, types.get(type));
    }

    public int either(int a, int b) throws IndexOutOfBoundsException, IllegalStateException {
        needExpression(a);
        needExpression(b);
        return addExpression(EITHER, expressions.get(a), expressions.get(b), null, 0, null);
    }

    public int as(int expression, int type)
            throws IndexOutOfBoundsException, IllegalArgumentException, IllegalStateException {
        needExpression(expression);
        needType(type);
        needClosed(type);
        return addExpression(AS, expressions.get(expression), null, null, 0, types.get(type));
    }

    public int call(int expression, int name, int one, int other)
            throws IndexOutOfBoundsException, IllegalArgumentException, IllegalStateException {
        needExpression(expression);
        if (one != NONE) needExpression(one);
        if (other != NONE) needExpression(other);
        needName(name);
        needInOrder(one, other);
        Expression first = one == NONE ? null : expressions.get(one);
        Expression second = other == NONE ? null : expressions.get(other);
        return addExpression(CALL, expressions.get(expression), first, second, name, null);
    }

    public int many(int what) throws IllegalArgumentException {
        if (what < 0 || what > 3) throw new IllegalArgumentException("no such thing to count");
        return countOf(what);
    }

    // ---- types

    public int depth(int type) throws IndexOutOfBoundsException {
        needType(type);
        return types.get(type).depth;
    }

    public boolean isSame(int a, int b) throws IndexOutOfBoundsException {
        needType(a);
        needType(b);
        return types.get(a) == types.get(b);
    }

    public boolean isUnder(int a, int b) throws IndexOutOfBoundsException {
        needType(a);
        needType(b);
        makeSpace();
        return room.goesUnder(types.get(a), types.get(b));
    }

    public int road(int type, int place, int k) throws IndexOutOfBoundsException {
        needType(type);
        makeSpace();
        return lineAt(roadAt(types.get(type), place), k);
    }

    public int join(int a, int b, int k) throws IndexOutOfBoundsException {
        needType(a);
        needType(b);
        makeSpace();
        return lineAt(room.joined(types.get(a), types.get(b)), k);
    }

    // ---- expressions

    public int line(int expression, int k) throws IndexOutOfBoundsException {
        needExpression(expression);
        freshen(expressions.get(expression), 0);
        return lineAt(expressions.get(expression).result, k);
    }

    public int seen(int expression) throws IndexOutOfBoundsException {
        needExpression(expression);
        freshen(null, 0);
        return expressions.get(expression).seen;
    }

    public int taking(int expression) throws IndexOutOfBoundsException {
        needExpression(expression);
        freshen(null, 0);
        return expressions.get(expression).taking;
    }

    public int chosen(int expression) throws IndexOutOfBoundsException {
        needExpression(expression);
        freshen(null, 0);
        return expressions.get(expression).chosen;
    }

    public int own(int expression, int k) throws IndexOutOfBoundsException {
        needExpression(expression);
        freshen(expressions.get(expression), 0);
        return lineAt(expressions.get(expression).own, k);
    }

    // ---- faults and flaws

    public int faults() {
        freshen(null, 0);
        return countFaults();
    }

    public int ofFault(int fault, int what) throws IndexOutOfBoundsException, IllegalArgumentException {
        freshen(null, 0);
        Expression faulty = faultAt(fault);
        if (faulty == null) throw new IndexOutOfBoundsException("no such FAULT");
        if (what != 0 && what != 1) throw new IllegalArgumentException("nothing to tell of a FAULT");
        return what == 0 ? faulty.number : faulty.fault;
    }

    public boolean isFaulty(int expression) throws IndexOutOfBoundsException {
        needExpression(expression);
        freshen(null, 0);
        return expressions.get(expression).hasFault;
    }

    public int flaws() {
        makeSpace();
        noteFlaws();
        return noted.count;
    }

    public int ofFlaw(int flaw, int what) throws IndexOutOfBoundsException, IllegalArgumentException {
        makeSpace();
        noteFlaws();
        if (flaw < 0 || flaw >= noted.count) throw new IndexOutOfBoundsException("no such FLAW");
        if (what < 0 || what > 2) throw new IllegalArgumentException("nothing to tell of a FLAW");
        return noted.tell(flaw, what);
    }

    // ---- what would be (nothing is changed)

    public int wouldChoose(int type, int name, int one, int other)
            throws IndexOutOfBoundsException, IllegalArgumentException {
        needType(type);
        needTypeOrNone(one);
        needTypeOrNone(other);
        needName(name);
        needInOrder(one, other);
        needClosed(type);
        if (one != NONE) needClosed(one);
        if (other != NONE) needClosed(other);
        makeSpace();
        int fault = chooser.choose(types.get(type), name, typeOrNone(one), typeOrNone(other));
        if (fault != 0 || chooser.best == null) return -fault;
        return chooser.best.method;
    }

    public int faultsWithout(int method) throws IndexOutOfBoundsException {
        if (method < 0 || method >= methods.size()) throw new IndexOutOfBoundsException("no such METHOD");
        chooser.without = method;
        unjudge();
        freshen(null, 0);
        int count = countFaults();
        chooser.without = NONE;
        unjudge();
        return count;
    }

    public int faultsWith(int sort, int parameter, int how) throws IndexOutOfBoundsException, IllegalArgumentException {
        needParameter(sort, parameter);
        needHow(how);
        Sort told = sorts.get(sort);
        int before = told.howAt(parameter);
        putHow(told, parameter, how);
        freshen(null, 0);
        int count = countFaults();
        putHow(told, parameter, before);
        return count;
    }

    public int flawsWith(int sort, int parameter, int how) throws IndexOutOfBoundsException, IllegalArgumentException {
        needParameter(sort, parameter);
        needHow(how);
        Sort told = sorts.get(sort);
        int before = told.howAt(parameter);
        putHow(told, parameter, how);
        noteFlaws();
        int count = noted.count;
        putHow(told, parameter, before);
        return count;
    }

    public double meanDepth() {
        freshen(null, 0);
        int count = expressions.size();
        if (count == 0) return 0.0;
        int sum = 0;
        for (int i = 0; i < count; i++) sum += expressions.get(i).depth;
        return (double) sum / (double) count;
    }

    public long digest() {
        freshen(null, 0);
        noteFlaws();
        long d = DIGEST_START;
        for (int what = 0; what <= 3; what++) d = mixed(d, countOf(what));
        d = mixed(d, countFaults());
        d = mixed(d, noted.count);
        for (int i = 0; i < types.size(); i++) {
            d = mixed(d, types.get(i).depth);
            Type second = roadAt(types.get(i), 1);
            for (int k = 0; k <= 3; k++) d = mixed(d, lineAt(second, k));
        }
        for (int i = 0; i < expressions.size(); i++) {
            freshen(expressions.get(i), 0);
            d = mixedExpression(d, expressions.get(i));
        }
        for (int i = 0; i < expressions.size(); i++) {
            Expression at = expressions.get(i);
            if (at.fault == 0) continue;
            d = mixed(d, at.number);
            d = mixed(d, at.fault);
        }
        for (int i = 0; i < noted.count; i++) {
            for (int what = 0; what <= 2; what++) d = mixed(d, noted.tell(i, what));
        }
        return d;
    }

    // ---- what a call needs

    private void needSort(int sort) {
        if (sort < 0 || sort >= sorts.size()) throw new IndexOutOfBoundsException("no such SORT");
    }

    private void needType(int type) {
        if (type < 0 || type >= types.size()) throw new IndexOutOfBoundsException("no such TYPE");
    }

    private void needTypeOrNone(int type) {
        if (type != NONE) needType(type);
    }

    private void needExpression(int expression) {
        boolean isThere = expression >= 0 && expression < expressions.size();
        if (!isThere) throw new IndexOutOfBoundsException("no such EXPRESSION");
    }

    private void needParameter(int sort, int parameter) {
        needSort(sort);
        boolean isThere = parameter >= 0 && parameter < sorts.get(sort).many;
        if (!isThere) throw new IndexOutOfBoundsException("no such PARAMETER");
    }

    private void needClosed(int type) {
        if (has(types.get(type), OPEN)) throw new IllegalArgumentException("not CLOSED");
    }

    private void needSpaceForType() {
        if (types.size() >= MOST_TYPES) throw new IllegalStateException("no more TYPES");
    }

    private static void needName(int name) {
        if (name < 0 || name >= NAMES) throw new IllegalArgumentException("no NAME");
    }

    private static void needInOrder(int one, int other) {
        if (one == NONE && other != NONE) throw new IllegalArgumentException("the second one without the first one");
    }

    private static void needHow(int how) {
        if (!isHow(how)) throw new IllegalArgumentException("no PARAMETER is so");
    }

    private static boolean isHow(int how) {
        return how == FIXED || how == OUT || how == IN;
    }

    // ---- helpers of the calls

    /** What may not stand in the TYPES that are told for a SORT. */
    private static int barredFrom(Sort sort, boolean isGeneral) {
        int marks = isGeneral ? 0 : HAS_OWN;
        if (sort.many < 1) marks |= HAS_FIRST;
        if (sort.many < 2) marks |= HAS_SECOND;
        return marks;
    }

    private static boolean has(Type type, int marks) {
        return type != null && (type.marks & marks) != 0;
    }

    private Type typeOrNone(int type) {
        return type < 0 || type >= types.size() ? null : types.get(type);
    }

    private static int depthOf(Type type) {
        return type == null ? 0 : type.depth;
    }

    private int addExpression(int kind, Expression a, Expression b, Expression c, int name, Type told) {
        if (expressions.size() >= MOST_EXPRESSIONS) throw new IllegalStateException("no more EXPRESSIONS");
        Expression added = new Expression();
        added.number = expressions.size();
        added.kind = kind;
        added.a = a;
        added.b = b;
        added.c = c;
        added.name = name;
        added.told = told;
        expressions.add(added);
        return added.number;
    }

    private int countOf(int what) {
        switch (what) {
            case 0: return sorts.size();
            case 1: return types.size();
            case 2: return methods.size();
            default: return expressions.size();
        }
    }

    /** Parents have smaller numbers, so one way through the SORTS is enough. */
    private void lookUp() {
        for (int i = 0; i < sorts.size(); i++) {
            Sort at = sorts.get(i);
            at.above = 1 << i;
            if (at.first != null && at.first.of != null) at.above |= at.first.of.above;
            if (at.second != null && at.second.of != null) at.above |= at.second.of.above;
        }
    }

    private void putHow(Sort sort, int parameter, int how) {
        if (parameter == 0) sort.howOne = how;
        else sort.howOther = how;
        room.forget();
        unjudge();
        isNoted = false;
    }

    private Type roadAt(Type type, int place) {
        room.tidy();
        road.clear();
        room.climb(type, road, 0);
        return road.at(place);
    }

    private static int lineAt(Type type, int k) {
        Type at = type;
        int left = k;
        while (at != null && left > 0) {
            left--;
            if (at.one == null || left < at.one.size) {
                at = at.one;
            } else {
                left -= at.one.size;
                at = at.other;
            }
        }
        if (at == null || left < 0) return NO_PLACE;
        return at.of == null ? ANY - at.number : at.of.number;
    }

    private void makeSpace() {
        if (room.isCrowded()) letResultsGo();
        else room.tidy();
    }

    private void unjudge() {
        judged = 0;
        for (int i = 0; i < expressions.size(); i++) expressions.get(i).letGo();
        room.letGo(0);
    }

    /** Results can be very large: those that nobody waits for are found anew when they are asked for. */
    private void letResultsGo() {
        room.letGo(0);
        for (int i = 0; i < expressions.size(); i++) {
            Expression at = expressions.get(i);
            if (at.waiting == 0) at.letGo();
            room.hold(at.result);
            room.hold(at.own);
        }
        room.tidyNow();
    }

    /** Judges one EXPRESSION, or all that aren't yet; those that are named in it first, if their results were let go. */
    private void freshen(Expression only, int level) {
        int from = only == null ? judged : only.number;
        int to = only == null ? expressions.size() : only.number + 1;
        for (int i = from; i < to && level <= MOST_EXPRESSIONS; i++) {
            Expression at = expressions.get(i);
            if (at.result != null) continue;
            at.waitForNamed(1);
            for (int k = 0; k < 3; k++) {
                if (at.namedAt(k) != null && at.namedAt(k).result == null) freshen(at.namedAt(k), level + 1);
            }
            for (int attempt = 0; attempt < ATTEMPTS; attempt++) {
                at.clear();
                if (attempt == 0) room.tidy();
                else letResultsGo();
                room.isOver = false;
                switch (at.kind) {
                    case VALUE:
                        at.result = at.told;
                        break;
                    case EITHER:
                        at.result = room.joined(resultOf(at.a), resultOf(at.b));
                        break;
                    case AS:
                        at.result = at.told;
                        if (!room.goesUnder(resultOf(at.a), at.told)) at.fault = NOT_UNDER;
                        break;
                    default:
                        at.result = room.nothing;
                        if (at.hasFault) break;
                        at.fault = chooser.choose(resultOf(at.a), at.name, resultOf(at.b), resultOf(at.c));
                        at.take(chooser);
                }
                if (!room.isOver) break;
            }
            at.waitForNamed(-1);
            if (at.fault != 0) at.hasFault = true;
            at.depth = depthOf(at.result);
            room.hold(at.result);
            room.hold(at.own);
        }
        if (only == null) judged = to;
    }

    private static Type resultOf(Expression expression) {
        return expression == null ? null : expression.result;
    }

    private int countFaults() {
        int count = 0;
        for (int i = 0; i < expressions.size(); i++) {
            if (expressions.get(i).fault != 0) count++;
        }
        return count;
    }

    private Expression faultAt(int fault) {
        int left = fault;
        for (int i = 0; i < expressions.size() && left >= 0; i++) {
            Expression at = expressions.get(i);
            if (at.fault == 0) continue;
            if (left == 0) return at;
            left--;
        }
        return null;
    }

    private void noteFlaws() {
        if (isNoted) return;
        noted.count = 0;
        for (int i = 0; i < sorts.size(); i++) noteFlawsOf(sorts.get(i));
        isNoted = true;
    }

    private void noteFlawsOf(Sort sort) {
        if (room.standsBadly(sort.first, OUT, sort, 0)) noted.note(sort.number, BAD_PARENT, 0);
        if (room.standsBadly(sort.second, OUT, sort, 0)) noted.note(sort.number, BAD_PARENT, 1);
        Type one = sort.many > 0 ? room.firstParameter : null;
        Type other = sort.many > 1 ? room.secondParameter : null;
        room.tidy();
        road.clear();
        room.climb(room.make(sort, one, other), road, 0);
        if (road.isMixed) noted.note(sort.number, MIXED_ROAD, NONE);
        for (int i = 0; i < methods.size(); i++) {
            Method at = methods.get(i);
            if (at.sort != sort) continue;
            boolean isBad = room.standsBadly(at.one, IN, sort, 0) || room.standsBadly(at.other, IN, sort, 0)
                    || room.standsBadly(at.result, OUT, sort, 0);
            if (isBad) noted.note(sort.number, BAD_METHOD, at.number);
        }
    }

    private static long mixed(long d, long x) {
        return d * DIGEST_FACTOR + x;
    }

    private static long mixedExpression(long before, Expression at) {
        long d = before;
        for (int k = 0; k <= 5; k++) d = mixed(d, lineAt(at.result, k));
        d = mixed(d, at.seen);
        d = mixed(d, at.taking);
        d = mixed(d, at.chosen);
        d = mixed(d, lineAt(at.own, 0));
        return mixed(d, at.hasFault ? 1 : 0);
    }

    private static final class Sort {
        int number;
        int many;
        /** FIXED, if it has no such PARAMETER. */
        int howOne;
        int howOther;
        Type first;
        Type second;
        /** The SORTS that come on its ROAD, one bit each. */
        int above;

        int howAt(int parameter) {
            return parameter == 0 ? howOne : howOther;
        }
    }

    /** TYPES that are the SAME are one object of a Room, as long as it is in use. */
    private static final class Type {
        /** null for all that is no TYPE of a SORT. */
        Sort of;
        Type one;
        Type other;
        int depth;
        /** The length of its LINE; the greatest int for all that is longer. */
        int size;
        int marks;
        /** Its place in the Room, as long as that isn't tidied. */
        int number;
        int hash;
        Type next;
        /** It as the PARENTS of its SORT; null for what nobody has asked for yet. */
        Type first;
        Type second;
        boolean isNeeded;
    }

    /** A ROAD, in a row that is used again and again. */
    private static final class Road {
        final Type[] row = new Type[MOST_SORTS];
        int count = 0;
        /** Whether a SORT came a second time, and not the SAME. */
        boolean isMixed = false;

        void clear() {
            count = 0;
            isMixed = false;
        }

        Type at(int place) {
            return place < 0 || place >= count || place >= row.length ? null : row[place];
        }

        int placeOf(Sort sort) {
            for (int i = 0; i < count && i < row.length; i++) {
                if (row[i] != null && row[i].of == sort) return i;
            }
            return NONE;
        }
    }

    /** Pairs of TYPES with a number for each; all are forgotten at once, if there are too many. */
    private static final class Pairs {
        /** 0 where nothing is; else the numbers of both TYPES, that for the pair, and a bit that is 1. */
        private long[] slots = new long[FIRST_SLOTS];
        private int count = 0;

        void forget() {
            if (count > 0) Arrays.fill(slots, 0L);
            count = 0;
        }

        /** NONE, if there is no such pair. */
        int find(Type a, Type b) {
            long key = ((long) a.number << NUMBER_BITS) | b.number;
            int slot = (int) (key * SPREAD >>> 40) & (slots.length - 1);
            for (int i = 0; i < slots.length && slots[slot] != 0; i++) {
                if (slots[slot] >>> (NUMBER_BITS + 1) == key) {
                    return (int) (slots[slot] >>> 1) & ((1 << NUMBER_BITS) - 1);
                }
                slot = (slot + 1) & (slots.length - 1);
            }
            return NONE;
        }

        void keep(Type a, Type b, int number) {
            if (count * 4 >= slots.length * 3) makeSpace();
            long key = ((long) a.number << NUMBER_BITS) | b.number;
            add((key << NUMBER_BITS | number) << 1 | 1);
        }

        private void makeSpace() {
            if (slots.length >= MOST_SLOTS) {
                forget();
                return;
            }
            long[] old = slots;
            slots = new long[old.length * 2];
            count = 0;
            for (int i = 0; i < old.length; i++) {
                if (old[i] != 0) add(old[i]);
            }
        }

        private void add(long entry) {
            long key = entry >>> (NUMBER_BITS + 1);
            int slot = (int) (key * SPREAD >>> 40) & (slots.length - 1);
            for (int i = 0; i < slots.length && slots[slot] != 0; i++) slot = (slot + 1) & (slots.length - 1);
            slots[slot] = entry;
            count++;
        }
    }

    /** A question that stands open: whether a is UNDER b, or what both come to be together. */
    private static final class Step {
        Type a;
        Type b;
        /** Those on their ROADS that are of one SORT, whose TYPES are gone along. */
        Type x;
        Type y;
        /** How many of these have been asked for. */
        int turn;
        /** What they come to be together. */
        Type one;
        Type other;

        void open(Type low, Type high) {
            a = low;
            b = high;
            x = null;
            y = null;
            turn = 0;
            one = null;
            other = null;
        }

        boolean isWhole() {
            return x == null || x.of == null || turn >= x.of.many;
        }

        Type partOfX() {
            if (x == null) return null;
            return turn == 0 ? x.one : x.other;
        }

        Type partOfY() {
            if (y == null) return null;
            return turn == 0 ? y.one : y.other;
        }

        int how() {
            return x == null || x.of == null ? FIXED : x.of.howAt(turn);
        }

        void take(Type part) {
            if (turn == 0) one = part;
            else other = part;
            turn++;
        }
    }

    /** All TYPES that are in use, and how they lie to one another. */
    private static final class Room {
        final Type any = leaf(0, 0);
        final Type nothing = leaf(1, 0);
        final Type firstParameter = leaf(3, HAS_FIRST);
        final Type secondParameter = leaf(4, HAS_SECOND);
        final ArrayList<Type> told = new ArrayList<>();
        /** What else must stay, if it is tidied, the latest last. */
        final ArrayList<Type> held = new ArrayList<>();
        /** Those that are in use, by their numbers, and behind them those that may be used again. */
        private final ArrayList<Type> kept = new ArrayList<>();
        private int used = LEAVES;
        private int limit = FIRST_LIMIT;
        private Type[] heads = new Type[FIRST_LIMIT / TYPES_A_HEAD];
        /** The first one of those that are marked, and whose inner ones are not yet. */
        private Type marked = null;
        /** Whether it was tidied since the last question was asked. */
        private boolean isTidied = false;
        /** Whether there was no room for a TYPE that was wanted. */
        boolean isOver = false;
        /** For a pair whether one is UNDER the other. */
        private final Pairs orders = new Pairs();
        /** For a pair the number of its JOIN. */
        private final Pairs joins = new Pairs();
        private final ArrayList<Step> asked = new ArrayList<>();
        private int asking = 0;
        private final ArrayList<Step> met = new ArrayList<>();
        private int meeting = 0;
        private final Road way = new Road();

        Room() {
            Type ownType = leaf(2, HAS_OWN);
            kept.add(any);
            kept.add(nothing);
            kept.add(ownType);
            kept.add(firstParameter);
            kept.add(secondParameter);
            told.add(any);
            told.add(nothing);
            told.add(ownType);
        }

        private static Type leaf(int number, int marks) {
            Type made = new Type();
            made.size = 1;
            made.marks = marks;
            made.number = number;
            made.hash = (number + 1) * SPREAD_FIRST;
            return made;
        }

        void hold(Type type) {
            if (type != null) held.add(type);
        }

        void letGo(int from) {
            for (int i = held.size() - 1; i >= from && i >= 0; i--) held.remove(i);
        }

        /** To be called only between two questions, when all that is still wanted is told or held. */
        void tidy() {
            isTidied = false;
            limit = Math.min(limit, LAST_LIMIT);
            if (used >= limit) giveBack();
        }

        void tidyNow() {
            isTidied = false;
            limit = Math.min(limit, LAST_LIMIT);
            giveBack();
        }

        boolean isCrowded() {
            return used > CROWDED_LIMIT;
        }

        /** What is given back while a question stands open is asked for again: the second time the room grows. */
        private void giveBack() {
            boolean mayGrow = limit < LAST_LIMIT;
            if (!isTidied || !mayGrow) {
                needAll(told);
                needAll(held);
                needSteps(asked, asking);
                needSteps(met, meeting);
                for (int i = 0; i < way.count; i++) need(way.at(i));
                needInner();
                sortOut();
                forget();
            }
            if (mayGrow && (isTidied || used > limit / 2)) {
                limit *= 2;
                heads = new Type[limit / TYPES_A_HEAD];
            }
            if (!mayGrow && used > FULL) limit = GREATEST_INT;
            isTidied = true;
            link();
        }

        private void needAll(ArrayList<Type> row) {
            for (int i = 0; i < row.size(); i++) need(row.get(i));
        }

        private void needSteps(ArrayList<Step> row, int count) {
            for (int i = 0; i < count && i < row.size(); i++) {
                Step at = row.get(i);
                need(at.a);
                need(at.b);
                need(at.x);
                need(at.y);
                need(at.one);
                need(at.other);
            }
        }

        private void needInner() {
            for (int n = 0; n < MOST_KEPT && marked != null; n++) {
                Type at = marked;
                marked = at.next;
                need(at.one);
                need(at.other);
            }
        }

        /** A TYPE is marked once only; the chains of next are made anew afterwards. */
        private void need(Type type) {
            if (type == null || type.of == null || type.isNeeded) return;
            type.isNeeded = true;
            type.next = marked;
            marked = type;
        }

        private void sortOut() {
            int left = LEAVES;
            for (int i = LEAVES; i < used && i < kept.size(); i++) {
                Type at = kept.get(i);
                if (!at.isNeeded) continue;
                kept.set(i, kept.get(left));
                kept.set(left, at);
                at.number = left;
                at.isNeeded = false;
                at.first = null;
                at.second = null;
                left++;
            }
            used = left;
        }

        private void link() {
            for (int i = 0; i < heads.length; i++) heads[i] = null;
            for (int i = LEAVES; i < used && i < kept.size(); i++) {
                Type at = kept.get(i);
                int head = at.hash & (heads.length - 1);
                at.next = heads[head];
                heads[head] = at;
            }
        }

        Type make(Sort of, Type one, Type other) {
            int hash = of.number + 1;
            if (one != null) hash = (hash ^ one.hash) * SPREAD_FIRST;
            if (other != null) hash = (hash ^ (hash >>> 15) ^ other.hash) * SPREAD_SECOND;
            hash ^= hash >>> 16;
            int head = hash & (heads.length - 1);
            for (Type at = heads[head]; at != null; at = at.next) {
                if (at.of == of && at.one == one && at.other == other) return at;
            }
            if (used >= MOST_KEPT) {
                isOver = true;
                return any;
            }
            if (used >= kept.size()) kept.add(new Type());
            Type added = kept.get(used);
            added.of = of;
            added.one = one;
            added.other = other;
            added.depth = 0;
            added.marks = HAS_SORT << of.number;
            long size = 1;
            for (int i = 0; i < 2; i++) {
                Type in = i == 0 ? one : other;
                if (in == null) continue;
                added.depth = Math.max(added.depth, in.depth + 1);
                added.marks |= in.marks;
                size += in.size;
            }
            added.size = (int) Math.min(size, (long) GREATEST_INT);
            added.number = used;
            added.hash = hash;
            added.first = null;
            added.second = null;
            added.isNeeded = false;
            added.next = heads[head];
            heads[head] = added;
            used++;
            return added;
        }

        /** Puts TYPES in the place of the PARAMETERS and of the OWN TYPE; null leaves one as it is. */
        private Type put(Type in, Type one, Type other, Type own, int level) {
            int wanted = (one == null ? 0 : HAS_FIRST) | (other == null ? 0 : HAS_SECOND) | (own == null ? 0 : HAS_OWN);
            if (in == null || (in.marks & wanted) == 0 || level > MOST_LEVELS) return in;
            if (in == firstParameter) return one;
            if (in == secondParameter) return other;
            if (in.of == null) return own;
            Type first = put(in.one, one, other, own, level + 1);
            Type second = put(in.other, one, other, own, level + 1);
            if (first != null && first.depth >= DEEPEST_TOLD) first = any;
            if (second != null && second.depth >= DEEPEST_TOLD) second = any;
            return make(in.of, first, second);
        }

        private void climb(Type from, Road road, int level) {
            if (from == null || from.of == null || level > MOST_SORTS) return;
            int place = road.placeOf(from.of);
            if (place >= 0) {
                // what is the SAME has the same way up, so only the first one need be climbed
                if (road.at(place) != from) road.isMixed = true;
                return;
            }
            if (road.count >= road.row.length) return;
            road.row[road.count] = from;
            road.count++;
            if (from.first == null) from.first = put(from.of.first, from.one, from.other, null, 0);
            climb(from.first, road, level + 1);
            if (from.second == null) from.second = put(from.of.second, from.one, from.other, null, 0);
            climb(from.second, road, level + 1);
        }

        /** The TYPE of a SORT on the ROAD of one; null if there is none. */
        Type onRoad(Type from, Sort sort) {
            Type at = from;
            for (int step = 0; step <= MOST_SORTS; step++) {
                if (at == null || at.of == null || at.of == sort) break;
                Sort of = at.of;
                if (isAbove(of.first, sort)) {
                    if (at.first == null) at.first = put(of.first, at.one, at.other, null, 0);
                    at = at.first;
                } else if (isAbove(of.second, sort)) {
                    if (at.second == null) at.second = put(of.second, at.one, at.other, null, 0);
                    at = at.second;
                } else {
                    at = null;
                }
            }
            return at == null || at.of != sort ? null : at;
        }

        private static boolean isAbove(Type from, Sort sort) {
            return from != null && from.of != null && (from.of.above >> sort.number & 1) == 1;
        }

        /** What was found out may hold no longer. */
        void forget() {
            orders.forget();
            joins.forget();
        }

        /**
         * Whether a is UNDER b; also if there is neither. Each step goes down in one TYPE and along the ROAD of the
         * other, to SORTS with smaller numbers, so none comes again while it stands open.
         */
        boolean goesUnder(Type a, Type b) {
            int answer = known(a, b);
            if (answer != NONE) return answer == YES;
            if (meeting == 0) isTidied = false;
            asking = 0;
            ask(a, b);
            for (int n = 0; n < MOST_STEPS && asking > 0 && answer != NO; n++) {
                if (used >= limit) giveBack();
                Step top = asked.get(asking - 1);
                if (top.x == null) top.x = onRoad(top.a, top.b.of);
                if (top.x == null) {
                    answer = NO;
                } else if (top.isWhole()) {
                    orders.keep(top.a, top.b, YES);
                    asking--;
                } else {
                    answer = askPart(top);
                }
            }
            boolean isUnder = asking == 0;
            for (; asking > 0; asking--) {
                Step top = asked.get(asking - 1);
                if (answer == NO) orders.keep(top.a, top.b, NO);
            }
            return isUnder;
        }

        /** Whether a is UNDER b, as far as it is known at once; NONE if it isn't. */
        private int known(Type a, Type b) {
            if (a == b) return YES;
            if (a == null || b == null) return NO;
            if (a == nothing || b == any) return YES;
            if (b.of == null || !isAbove(a, b.of)) return NO;
            return orders.find(a, b);
        }

        private void ask(Type low, Type high) {
            Step added = stepAt(asked, asking);
            added.open(low, high);
            added.y = high;
            asking++;
        }

        private int askPart(Step top) {
            Type x = top.partOfX();
            Type y = top.partOfY();
            int how = top.how();
            top.turn++;
            if (how == FIXED) return x == y ? YES : NO;
            Type low = how == OUT ? x : y;
            Type high = how == OUT ? y : x;
            int answer = known(low, high);
            if (answer == NONE) ask(low, high);
            return answer;
        }

        private static Step stepAt(ArrayList<Step> row, int place) {
            for (int i = row.size(); i <= place; i++) row.add(new Step());
            return row.get(place);
        }

        Type joined(Type a, Type b) {
            isTidied = false;
            meeting = 0;
            Type last = meet(a, b);
            for (int n = 0; n < MOST_STEPS && meeting > 0; n++) {
                Step top = met.get(meeting - 1);
                if (last != null) top.take(last);
                if (used >= limit) giveBack();
                if (top.isWhole()) {
                    last = top.x == null || top.x.of == null ? any : make(top.x.of, top.one, top.other);
                    joins.keep(top.a, top.b, last.number);
                    meeting--;
                    continue;
                }
                Type x = top.partOfX();
                Type y = top.partOfY();
                switch (top.how()) {
                    case FIXED:
                        last = x;
                        break;
                    case OUT:
                        last = meet(x, y);
                        break;
                    default:
                        last = goesUnder(x, y) ? x : y;
                }
            }
            meeting = 0;
            return last == null ? any : last;
        }

        /** The JOIN, if it is known at once; null if not, and then one step more stands open for it. */
        private Type meet(Type a, Type b) {
            if (a == null || b == null) return any;
            int number = joins.find(a, b);
            if (number >= 0 && number < used && number < kept.size()) return kept.get(number);
            Step added = stepAt(met, meeting);
            added.open(a, b);
            meeting++;
            Type found = goesUnder(a, b) ? b : goesUnder(b, a) ? a : null;
            boolean isOpen = false;
            way.clear();
            if (found == null) climb(a, way, 0);
            for (int i = 0; i < way.count && !isOpen; i++) {
                added.x = way.at(i);
                added.y = added.x == null ? null : onRoad(b, added.x.of);
                isOpen = added.y != null;
                for (added.turn = 0; isOpen && !added.isWhole(); added.turn++) {
                    Type x = added.partOfX();
                    Type y = added.partOfY();
                    if (added.how() == FIXED) isOpen = x == y;
                    if (added.how() == IN) isOpen = goesUnder(x, y) || goesUnder(y, x);
                }
                added.turn = 0;
            }
            way.clear();
            if (isOpen) return null;
            meeting--;
            return found == null ? any : found;
        }

        /** Whether a PARAMETER of the SORT stands where it must not, in what itself stands this way. */
        private boolean standsBadly(Type in, int way, Sort sort, int level) {
            if (in == null || (in.marks & (HAS_FIRST | HAS_SECOND)) == 0 || level > MOST_LEVELS) return false;
            if (in.of == null) {
                int how = sort.howAt(in == firstParameter ? 0 : 1);
                return how != FIXED && how != way;
            }
            return standsBadly(in.one, turned(way, in.of.howOne), sort, level + 1)
                    || standsBadly(in.other, turned(way, in.of.howOther), sort, level + 1);
        }

        private static int turned(int way, int how) {
            if (way == FIXED || how == FIXED) return FIXED;
            return how == OUT ? way : OUT + IN - way;
        }
    }

    private static final class Method {
        int number;
        Sort sort;
        int name;
        Type one;
        Type other;
        Type result;
        boolean isGeneral;
    }

    /** A METHOD as it is SEEN. */
    private static final class Candidate {
        int method;
        int place;
        boolean isGeneral;
        Type one;
        Type other;
        Type result;
        /** The OWN TYPE that was found; null if it is not GENERAL. */
        Type own;
        boolean takes;
    }

    /** Finds the METHOD for a CALL, and tells what came on the way. */
    private static final class Chooser {
        final Room room = new Room();
        final ArrayList<Method> methods = new ArrayList<>();
        private final Road road = new Road();
        private final Candidate[] candidates = new Candidate[MOST_METHODS];
        private final ArrayList<Type> hints = new ArrayList<>();
        /** A METHOD that counts as not told. */
        int without = NONE;
        int seen = 0;
        int taking = 0;
        Candidate best = null;

        Chooser() {
            for (int i = 0; i < candidates.length; i++) candidates[i] = new Candidate();
        }

        /** The code of the FAULT; 0 without one. */
        int choose(Type from, int name, Type one, Type other) {
            int before = room.held.size();
            lookAround(from, name);
            taking = 0;
            for (int i = 0; i < seen; i++) {
                Candidate at = candidates[i];
                room.tidy();
                at.takes = (at.one == null) == (one == null) && (at.other == null) == (other == null);
                if (!at.takes) continue;
                if (at.isGeneral) settleOwn(at, one, other);
                at.takes = room.goesUnder(one, at.one) && room.goesUnder(other, at.other);
                if (at.takes) taking++;
            }
            best = null;
            for (int i = 0; i < seen && best == null; i++) {
                if (candidates[i].takes && isBest(candidates[i])) best = candidates[i];
            }
            room.letGo(before);
            if (seen == 0) return NONE_SEEN;
            if (taking == 0) return NONE_TAKES;
            return best == null ? NONE_BEST : 0;
        }

        private void lookAround(Type from, int name) {
            seen = 0;
            room.tidy();
            road.clear();
            room.climb(from, road, 0);
            for (int i = 0; i < methods.size() && seen < candidates.length; i++) {
                Method at = methods.get(i);
                if (at.name != name || at.number == without) continue;
                int place = road.placeOf(at.sort);
                Type there = road.at(place);
                if (there == null) continue;
                Candidate added = candidates[seen];
                seen++;
                added.method = at.number;
                added.place = place;
                added.isGeneral = at.isGeneral;
                added.one = room.put(at.one, there.one, there.other, null, 0);
                added.other = room.put(at.other, there.one, there.other, null, 0);
                added.result = room.put(at.result, there.one, there.other, null, 0);
                added.own = null;
                holdAll(added);
            }
        }

        private void holdAll(Candidate at) {
            room.hold(at.one);
            room.hold(at.other);
            room.hold(at.result);
            room.hold(at.own);
        }

        private void settleOwn(Candidate at, Type one, Type other) {
            hints.clear();
            gatherHints(at.one, one, 0);
            gatherHints(at.other, other, 0);
            for (int i = 0; i < hints.size() && at.own == null; i++) {
                boolean isAbove = true;
                for (int j = 0; j < hints.size() && isAbove; j++) isAbove = room.goesUnder(hints.get(j), hints.get(i));
                if (isAbove) at.own = hints.get(i);
            }
            if (at.own == null) at.own = room.any;
            at.one = room.put(at.one, null, null, at.own, 0);
            at.other = room.put(at.other, null, null, at.own, 0);
            at.result = room.put(at.result, null, null, at.own, 0);
            holdAll(at);
        }

        private void gatherHints(Type given, Type taken, int level) {
            if (given == null || taken == null || (given.marks & HAS_OWN) == 0 || level > MOST_LEVELS) return;
            if (given.of == null) {
                hints.add(taken);
                room.hold(taken);
                return;
            }
            Type at = room.onRoad(taken, given.of);
            if (at == null) return;
            gatherHints(given.one, at.one, level + 1);
            gatherHints(given.other, at.other, level + 1);
        }

        private boolean isBest(Candidate c) {
            for (int i = 0; i < seen; i++) {
                Candidate d = candidates[i];
                if (d == c || !d.takes) continue;
                if (!room.goesUnder(c.one, d.one) || !room.goesUnder(c.other, d.other)) return false;
                boolean isBack = room.goesUnder(d.one, c.one) && room.goesUnder(d.other, c.other);
                if (isBack && c.place >= d.place) return false;
            }
            return true;
        }
    }

    private static final class Expression {
        int number;
        int kind;
        Expression a;
        Expression b;
        Expression c;
        int name;
        Type told;
        /** null as long as it isn't judged, and again once it was let go. */
        Type result;
        Type own;
        int seen;
        int taking;
        int chosen;
        int fault;
        boolean hasFault;
        int depth;
        /** How many that are being judged wait for its result. */
        int waiting = 0;

        Expression namedAt(int place) {
            if (place == 0) return a;
            return place == 1 ? b : c;
        }

        void waitForNamed(int change) {
            if (a != null) a.waiting += change;
            if (b != null) b.waiting += change;
            if (c != null) c.waiting += change;
        }

        void letGo() {
            result = null;
            own = null;
        }

        /** As it is before it is judged: it has in it what those have that are named in it. */
        void clear() {
            letGo();
            seen = 0;
            taking = 0;
            chosen = NONE;
            fault = 0;
            hasFault = a != null && a.hasFault || b != null && b.hasFault || c != null && c.hasFault;
        }

        void take(Chooser from) {
            seen = from.seen;
            taking = from.taking;
            if (fault != 0 || from.best == null) return;
            result = from.best.result;
            own = from.best.own;
            chosen = from.best.method;
        }
    }

    private static final class Flaws {
        private final int[] sorts = new int[MOST_SORTS * 3 + MOST_METHODS];
        private final int[] codes = new int[MOST_SORTS * 3 + MOST_METHODS];
        private final int[] places = new int[MOST_SORTS * 3 + MOST_METHODS];
        int count = 0;

        void note(int sort, int code, int place) {
            if (count >= sorts.length) return;
            sorts[count] = sort;
            codes[count] = code;
            places[count] = place;
            count++;
        }

        int tell(int flaw, int what) {
            if (flaw < 0 || flaw >= count) return NONE;
            if (what == 0) return sorts[flaw];
            return what == 1 ? codes[flaw] : places[flaw];
        }
    }
}
