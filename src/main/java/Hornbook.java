import java.util.ArrayList;
import java.util.Arrays;

/** A checker of types for a small language. */
public final class Hornbook {

    private static final int MOST_SORTS = 12;
    private static final int MOST_TYPES = 60;
    private static final int MOST_METHODS = 30;
    private static final int MOST_EXPRESSIONS = 40;
    private static final int MOST_PARENTS = 2;
    private static final int MOST_PARAMETERS = 2;
    private static final int NAMES = 10;
    private static final int DEEPEST_TOLD = 4;

    /** How a PARAMETER is; a place in a TYPE stands OUTWARD as OUT, INWARD as IN. */
    private static final int FIXED = 0;
    private static final int OUT = 1;
    private static final int IN = 2;

    /** ANY in a LINE; NOTHING, the OWN TYPE and the PARAMETERS follow downwards. */
    private static final int ANY = -1;

    /** The numbers of what is no TYPE of a SORT; in a pair, those below LEAVES can stand for a SORT. */
    private static final int ANY_TYPE = 0;
    private static final int NOTHING_TYPE = 1;
    private static final int OWN = 2;
    private static final int FIRST_PARAMETER = 3;
    private static final int SECOND_PARAMETER = 4;
    private static final int LEAVES = 16;

    /** What stands in a TYPE, one bit each. A TYPE with none of OPEN is CLOSED. */
    private static final int HAS_FIRST = 1;
    private static final int HAS_SECOND = 2;
    private static final int HAS_OWN = 4;
    private static final int OPEN = HAS_FIRST | HAS_SECOND | HAS_OWN;

    private static final int NONE = -1;
    private static final int TOO_DEEP = -2;
    private static final int NO_PLACE = -9;

    private static final int VALUE = 0;
    private static final int EITHER = 1;
    private static final int AS = 2;
    private static final int CALL = 3;

    private static final int NONE_SEEN = 1;
    private static final int NONE_TAKES = 2;
    private static final int NONE_BEST = 3;
    private static final int NOT_UNDER = 4;

    private static final int BAD_PARENT = 1;
    private static final int MIXED_ROAD = 2;
    private static final int BAD_METHOD = 3;

    private static final int NO = 0;
    private static final int YES = 1;

    /** What a number stands for: one of the SORTS, or one of these. */
    private static final int SHUT = 12;
    private static final int LINKED = 13;
    private static final int LEAF = 14;
    private static final int FREE = 15;

    /** Where the parts of the words of a TYPE lie. */
    private static final int ID_BITS = 21;
    private static final int ID_MASK = (1 << ID_BITS) - 1;
    private static final int UPPER = 42;
    private static final long JOIN_BIT = 1L << 63;
    private static final int FORM_AT = 60;
    private static final int ONE_AT = 39;
    private static final int OTHER_AT = 18;
    private static final int DEPTH_AT = 9;
    private static final int DEPTH_MASK = (1 << DEPTH_AT) - 1;
    private static final long LOWER_MASK = (1L << OTHER_AT) - 1;
    private static final int UNKNOWN = DEPTH_MASK;
    /** A reach that is as great, or greater. */
    private static final int ENDLESS = UNKNOWN - 1;
    /** Far from being a reach, whatever is added to it. */
    private static final int NEVER = -(1 << 20);
    private static final int DEEPEST_FLAT = 500;
    private static final int MOST_LINKS = 1 << 6;

    /** How many TYPES there is room for; all else grows with them. */
    private static final int FIRST_NODES = 1 << 10;
    private static final int MOST_NODES = 2090000;
    private static final int NODES_A_HEAD = 4;
    private static final int GROWTH = 16;
    /** If more than one of so many is needed, it is too much. */
    private static final int CROWDED_SHARE = 2;
    /** More than can be made at one step. */
    private static final int RESERVE = 1 << 9;
    private static final int FIRST_HELD = 1 << 6;
    private static final int FIRST_HINTS = 1 << 3;

    private static final int FIRST_SLOTS = 1 << 9;
    private static final int MOST_SLOTS = 1 << 19;
    private static final int SLOTS_A_ROW = 4;
    private static final int VALUE_BITS = 22;
    /** When so many places of a LINE were passed, it is worth while to remember how long LINES are. */
    private static final int LONG_LINE = 1 << 10;
    private static final int FIRST_SIZES = 1 << 6;
    private static final int MOST_SIZES = 1 << 17;
    private static final int SIZE_BITS = 32;
    private static final long SIZE_MASK = (1L << SIZE_BITS) - 1;

    /** Far above what a question needs. */
    private static final long MOST_STEPS = 1L << 40;
    private static final long SPREAD = 0x9E3779B97F4A7C15L;
    /** The bits from here on are spread best; there are more of them than heads or slots. */
    private static final int HEAD_AT = 43;

    /** The questions: whether one is UNDER another; what a JOIN comes to be, and its ways to that; and others. */
    private static final int ORDER = 0;
    private static final int FORM = 1;
    private static final int MEET = 2;
    private static final int PARTS = 3;
    private static final int ROAD = 4;
    private static final int SMALL = 5;
    private static final int DEPTH = 6;
    private static final int LINE = 7;
    /** Each part can be asked for both ways. */
    private static final int MOST_WAYS = 2 * MOST_PARAMETERS;

    /** Told TYPES are at most 4 deep; a guard for what goes down in one. */
    private static final int MOST_LEVELS = 20;

    private static final long DIGEST_START = 58064L;
    private static final int DIGEST_FACTOR = 31;

    private final ArrayList<Expression> expressions = new ArrayList<>();
    private final Chooser chooser = new Chooser();
    private final ArrayList<Method> methods = chooser.methods;
    private final Room room = chooser.room;
    private final Nodes nodes = room.nodes;
    private final ArrayList<Sort> sorts = room.sorts;
    private final Flaws noted = new Flaws();
    /** The first TYPE of each SORT that came on a way up, as FLAWS look for it. */
    private final int[] met = new int[MOST_SORTS];
    /** The EXPRESSIONS with smaller numbers are judged as all that was told has it. */
    private int judged = 0;
    private boolean isNoted = true;

    public Hornbook() {
    }

    // ---- what is told: each call that adds something tells its number

    public int sort(int many, int first, int second) throws IllegalArgumentException, IllegalStateException {
        boolean isGood = many >= 0 && many <= MOST_PARAMETERS
                && (many < 1 || isHow(first)) && (many < 2 || isHow(second));
        if (!isGood) throw new IllegalArgumentException("no such PARAMETERS");
        if (sorts.size() >= MOST_SORTS) throw new IllegalStateException("no more SORTS");
        Sort told = new Sort();
        told.number = sorts.size();
        told.many = many;
        told.howOne = many < 1 ? FIXED : first;
        told.howOther = many < 2 ? FIXED : second;
        told.startWay();
        nodes.many[told.number] = many;
        nodes.lift(told.number, NONE, NONE);
        sorts.add(told);
        isNoted = false;
        return told.number;
    }

    public int parent(int sort, int type)
            throws IndexOutOfBoundsException, IllegalArgumentException, IllegalStateException {
        needSort(sort);
        needType(type);
        Sort child = sorts.get(sort);
        int told = room.toldAt(type);
        boolean isGood = nodes.formOf(told) < sort && isBelow(told, sort, 0) && !has(told, barredFrom(child, false));
        if (!isGood) throw new IllegalArgumentException("no PARENT for this SORT");
        if (child.second != NONE) throw new IllegalStateException("no more PARENTS");
        boolean isFirst = child.first == NONE;
        if (isFirst) child.first = told;
        else child.second = told;
        lookUp();
        startAnew();
        isNoted = false;
        return isFirst ? 1 : MOST_PARENTS;
    }

    public int type(int sort, int one, int other)
            throws IndexOutOfBoundsException, IllegalArgumentException, IllegalStateException {
        needSort(sort);
        needTypeOrNone(one);
        needTypeOrNone(other);
        Sort of = sorts.get(sort);
        needInOrder(one, other);
        int many = (one == NONE ? 0 : 1) + (other == NONE ? 0 : 1);
        if (many != of.many) throw new IllegalArgumentException("not as many as the PARAMETERS");
        int first = room.toldAt(one);
        int second = room.toldAt(other);
        boolean isTooDeep = nodes.depthOf(first) >= DEEPEST_TOLD || nodes.depthOf(second) >= DEEPEST_TOLD;
        if (isTooDeep) throw new IllegalArgumentException("too deep");
        needSpaceForType();
        room.tidy();
        return room.tell(nodes.make(sort, Math.max(first, ANY_TYPE), Math.max(second, ANY_TYPE)));
    }

    public int parameter(int which) throws IllegalArgumentException, IllegalStateException {
        if (which != 0 && which != 1) throw new IllegalArgumentException("no such PARAMETER");
        needSpaceForType();
        return room.tell(which == 0 ? FIRST_PARAMETER : SECOND_PARAMETER);
    }

    public int method(int sort, int name, int one, int other, int result, boolean isGeneral)
            throws IndexOutOfBoundsException, IllegalArgumentException, IllegalStateException {
        needSort(sort);
        needTypeOrNone(one);
        needTypeOrNone(other);
        needType(result);
        needName(name);
        needInOrder(one, other);
        Sort of = sorts.get(sort);
        int first = room.toldAt(one);
        int second = room.toldAt(other);
        int last = room.toldAt(result);
        int barred = barredFrom(of, isGeneral);
        boolean isBarred = has(first, barred) || has(second, barred) || has(last, barred);
        if (isBarred) throw new IllegalArgumentException("in one is what the METHOD must not use");
        if (methods.size() >= MOST_METHODS) throw new IllegalStateException("no more METHODS");
        Method told = new Method();
        told.number = methods.size();
        told.sort = sort;
        told.name = name;
        told.one = first;
        told.other = second;
        told.result = last;
        told.isGeneral = isGeneral;
        methods.add(told);
        unjudge();
        isNoted = false;
        return told.number;
    }

    public int value(int type) throws IndexOutOfBoundsException, IllegalArgumentException, IllegalStateException {
        needType(type);
        needClosed(type);
        return addExpression(VALUE, null, null, null, 0, room.toldAt(type));
    }

    public int either(int a, int b) throws IndexOutOfBoundsException, IllegalStateException {
        needExpression(a);
        needExpression(b);
        return addExpression(EITHER, expressions.get(a), expressions.get(b), null, 0, NONE);
    }

    public int as(int expression, int type)
            throws IndexOutOfBoundsException, IllegalArgumentException, IllegalStateException {
        needExpression(expression);
        needType(type);
        needClosed(type);
        return addExpression(AS, expressions.get(expression), null, null, 0, room.toldAt(type));
    }

    public int call(int expression, int name, int one, int other)
            throws IndexOutOfBoundsException, IllegalArgumentException, IllegalStateException {
        needExpression(expression);
        if (one != NONE) needExpression(one);
        if (other != NONE) needExpression(other);
        needName(name);
        needInOrder(one, other);
        Expression first = one == NONE ? null : expressions.get(one);
        Expression second = other == NONE ? null : expressions.get(other);
        return addExpression(CALL, expressions.get(expression), first, second, name, NONE);
    }

    public int many(int what) throws IllegalArgumentException {
        if (what < 0 || what > 3) throw new IllegalArgumentException("no such thing to count");
        return countOf(what);
    }

    // ---- types

    public int depth(int type) throws IndexOutOfBoundsException {
        needType(type);
        return nodes.depthOf(room.toldAt(type));
    }

    public boolean isSame(int a, int b) throws IndexOutOfBoundsException {
        needType(a);
        needType(b);
        return room.toldAt(a) == room.toldAt(b);
    }

    public boolean isUnder(int a, int b) throws IndexOutOfBoundsException {
        needType(a);
        needType(b);
        return room.ask(ORDER, room.toldAt(a), room.toldAt(b)) == YES;
    }

    public int road(int type, int place, int k) throws IndexOutOfBoundsException {
        needType(type);
        return room.lineAt(roadAt(room.toldAt(type), place), k);
    }

    public int join(int a, int b, int k) throws IndexOutOfBoundsException {
        needType(a);
        needType(b);
        room.tidy();
        return room.lineAt(room.joinOf(room.toldAt(a), room.toldAt(b)), k);
    }

    // ---- expressions

    public int line(int expression, int k) throws IndexOutOfBoundsException {
        needExpression(expression);
        freshen();
        return room.lineAt(expressions.get(expression).result, k);
    }

    public int seen(int expression) throws IndexOutOfBoundsException {
        needExpression(expression);
        freshen();
        return expressions.get(expression).seen;
    }

    public int taking(int expression) throws IndexOutOfBoundsException {
        needExpression(expression);
        freshen();
        return expressions.get(expression).taking;
    }

    public int chosen(int expression) throws IndexOutOfBoundsException {
        needExpression(expression);
        freshen();
        return expressions.get(expression).chosen;
    }

    public int own(int expression, int k) throws IndexOutOfBoundsException {
        needExpression(expression);
        freshen();
        return room.lineAt(expressions.get(expression).own, k);
    }

    // ---- faults and flaws

    public int faults() {
        freshen();
        return countFaults();
    }

    public int ofFault(int fault, int what) throws IndexOutOfBoundsException, IllegalArgumentException {
        freshen();
        Expression faulty = faultAt(fault);
        if (faulty == null) throw new IndexOutOfBoundsException("no such FAULT");
        if (what != 0 && what != 1) throw new IllegalArgumentException("nothing to tell of a FAULT");
        return what == 0 ? faulty.number : faulty.fault;
    }

    public boolean isFaulty(int expression) throws IndexOutOfBoundsException {
        needExpression(expression);
        freshen();
        return expressions.get(expression).hasFault;
    }

    public int flaws() {
        noteFlaws();
        return noted.count;
    }

    public int ofFlaw(int flaw, int what) throws IndexOutOfBoundsException, IllegalArgumentException {
        noteFlaws();
        if (flaw < 0 || flaw >= noted.count) throw new IndexOutOfBoundsException("no such FLAW");
        if (what < 0 || what > 2) throw new IllegalArgumentException("nothing to tell of a FLAW");
        return noted.tell(flaw, what);
    }

    // ---- what would be (nothing is changed)

    public int wouldChoose(int type, int name, int one, int other)
            throws IndexOutOfBoundsException, IllegalArgumentException {
        needType(type);
        needTypeOrNone(one);
        needTypeOrNone(other);
        needName(name);
        needInOrder(one, other);
        needClosed(type);
        if (one != NONE) needClosed(one);
        if (other != NONE) needClosed(other);
        int fault = chooser.choose(room.toldAt(type), name, room.toldAt(one), room.toldAt(other));
        if (fault != 0 || chooser.best == null) return -fault;
        return chooser.best.method;
    }

    public int faultsWithout(int method) throws IndexOutOfBoundsException {
        if (method < 0 || method >= methods.size()) throw new IndexOutOfBoundsException("no such METHOD");
        chooser.without = method;
        unjudge();
        freshen();
        int count = countFaults();
        chooser.without = NONE;
        unjudge();
        return count;
    }

    public int faultsWith(int sort, int parameter, int how) throws IndexOutOfBoundsException, IllegalArgumentException {
        needParameter(sort, parameter);
        needHow(how);
        Sort told = sorts.get(sort);
        int before = told.howAt(parameter);
        putHow(told, parameter, how);
        freshen();
        int count = countFaults();
        putHow(told, parameter, before);
        return count;
    }

    public int flawsWith(int sort, int parameter, int how) throws IndexOutOfBoundsException, IllegalArgumentException {
        needParameter(sort, parameter);
        needHow(how);
        Sort told = sorts.get(sort);
        int before = told.howAt(parameter);
        putHow(told, parameter, how);
        noteFlaws();
        int count = noted.count;
        putHow(told, parameter, before);
        return count;
    }

    public double meanDepth() {
        freshen();
        int count = expressions.size();
        if (count == 0) return 0.0;
        int sum = 0;
        for (int i = 0; i < count; i++) {
            Expression at = expressions.get(i);
            if (at.depth == NONE) at.depth = room.depthOf(at.result);
            sum += at.depth;
        }
        return (double) sum / (double) count;
    }

    public long digest() {
        freshen();
        noteFlaws();
        long d = DIGEST_START;
        for (int what = 0; what <= 3; what++) d = mixed(d, countOf(what));
        d = mixed(d, countFaults());
        d = mixed(d, noted.count);
        for (int i = 0; i < room.tellings; i++) {
            d = mixed(d, nodes.depthOf(room.toldAt(i)));
            for (int k = 0; k <= 3; k++) d = mixed(d, room.lineAt(roadAt(room.toldAt(i), 1), k));
        }
        for (int i = 0; i < expressions.size(); i++) d = mixedExpression(d, expressions.get(i));
        for (int i = 0; i < expressions.size(); i++) {
            Expression at = expressions.get(i);
            if (at.fault == 0) continue;
            d = mixed(d, at.number);
            d = mixed(d, at.fault);
        }
        for (int i = 0; i < noted.count; i++) {
            for (int what = 0; what <= 2; what++) d = mixed(d, noted.tell(i, what));
        }
        return d;
    }

    // ---- what a call needs

    private void needSort(int sort) {
        if (sort < 0 || sort >= sorts.size()) throw new IndexOutOfBoundsException("no such SORT");
    }

    private void needType(int type) {
        if (type < 0 || type >= room.tellings) throw new IndexOutOfBoundsException("no such TYPE");
    }

    private void needTypeOrNone(int type) {
        if (type != NONE) needType(type);
    }

    private void needExpression(int expression) {
        boolean isThere = expression >= 0 && expression < expressions.size();
        if (!isThere) throw new IndexOutOfBoundsException("no such EXPRESSION");
    }

    private void needParameter(int sort, int parameter) {
        needSort(sort);
        boolean isThere = parameter >= 0 && parameter < sorts.get(sort).many;
        if (!isThere) throw new IndexOutOfBoundsException("no such PARAMETER");
    }

    private void needClosed(int type) {
        if (has(room.toldAt(type), OPEN)) throw new IllegalArgumentException("not CLOSED");
    }

    private void needSpaceForType() {
        if (room.tellings >= MOST_TYPES) throw new IllegalStateException("no more TYPES");
    }

    private static void needName(int name) {
        if (name < 0 || name >= NAMES) throw new IllegalArgumentException("no NAME");
    }

    private static void needInOrder(int one, int other) {
        if (one == NONE && other != NONE) throw new IllegalArgumentException("the second one without the first one");
    }

    private static void needHow(int how) {
        if (!isHow(how)) throw new IllegalArgumentException("no PARAMETER is so");
    }

    private static boolean isHow(int how) {
        return how == FIXED || how == OUT || how == IN;
    }

    // ---- helpers of the calls

    /** What may not stand in the TYPES that are told for a SORT. */
    private static int barredFrom(Sort sort, boolean isGeneral) {
        int marks = isGeneral ? 0 : HAS_OWN;
        if (sort.many < 1) marks |= HAS_FIRST;
        if (sort.many < 2) marks |= HAS_SECOND;
        return marks;
    }

    private boolean has(int type, int marks) {
        return (nodes.openOf(type) & marks) != 0;
    }

    /** Whether all SORTS in it have smaller numbers. */
    private boolean isBelow(int type, int sort, int level) {
        int form = nodes.formOf(type);
        if (form == LEAF || level > MOST_LEVELS) return form == LEAF;
        return form < sort && isBelow(nodes.partOf(type, 0), sort, level + 1)
                && isBelow(nodes.partOf(type, 1), sort, level + 1);
    }

    private int addExpression(int kind, Expression a, Expression b, Expression c, int name, int told) {
        if (expressions.size() >= MOST_EXPRESSIONS) throw new IllegalStateException("no more EXPRESSIONS");
        Expression added = new Expression();
        added.number = expressions.size();
        added.kind = kind;
        added.a = a;
        added.b = b;
        added.c = c;
        added.name = name;
        added.told = told;
        expressions.add(added);
        return added.number;
    }

    private int countOf(int what) {
        switch (what) {
            case 0: return sorts.size();
            case 1: return room.tellings;
            case 2: return methods.size();
            default: return expressions.size();
        }
    }

    /** Parents have smaller numbers, so one way through the SORTS is enough. */
    private void lookUp() {
        for (int i = 0; i < sorts.size(); i++) {
            Sort at = sorts.get(i);
            at.startWay();
            int first = nodes.formOf(at.first);
            int second = nodes.formOf(at.second);
            if (first < i) at.goOn(sorts.get(first));
            if (second < i) at.goOn(sorts.get(second));
            nodes.lift(i, at.first, at.second);
        }
    }

    private void putHow(Sort sort, int parameter, int how) {
        if (parameter == 0) sort.howOne = how;
        else sort.howOther = how;
        startAnew();
        isNoted = false;
    }

    /** NONE, if there is none. */
    private int roadAt(int type, int place) {
        int form = nodes.formOf(type);
        int sort = form >= sorts.size() ? NONE : sorts.get(form).wayAt(place);
        return sort == NONE || sort == form ? sort == NONE ? NONE : type : room.ask(ROAD, type, sort);
    }

    private void unjudge() {
        judged = 0;
        room.letGo(0);
    }

    private void startAnew() {
        unjudge();
        room.startAnew();
    }

    /** Judges all EXPRESSIONS that aren't yet. What a JOIN comes to be is looked at when it is asked for. */
    private void freshen() {
        for (; judged < expressions.size(); judged++) {
            Expression at = expressions.get(judged);
            at.clear();
            room.tidy();
            switch (at.kind) {
                case VALUE:
                    at.result = at.told;
                    break;
                case EITHER:
                    at.result = room.joinOf(resultOf(at.a), resultOf(at.b));
                    break;
                case AS:
                    at.result = at.told;
                    if (room.ask(ORDER, resultOf(at.a), at.told) != YES) at.fault = NOT_UNDER;
                    break;
                default:
                    at.result = NOTHING_TYPE;
                    if (at.hasFault) break;
                    at.fault = chooser.choose(resultOf(at.a), at.name, resultOf(at.b), resultOf(at.c));
                    at.take(chooser);
            }
            if (at.fault != 0) at.hasFault = true;
            room.hold(at.result);
            room.hold(at.own);
        }
    }

    private static int resultOf(Expression expression) {
        return expression == null ? NONE : expression.result;
    }

    private int countFaults() {
        int count = 0;
        for (int i = 0; i < expressions.size(); i++) {
            if (expressions.get(i).fault != 0) count++;
        }
        return count;
    }

    private Expression faultAt(int fault) {
        int left = fault;
        for (int i = 0; i < expressions.size() && left >= 0; i++) {
            Expression at = expressions.get(i);
            if (at.fault == 0) continue;
            if (left == 0) return at;
            left--;
        }
        return null;
    }

    private void noteFlaws() {
        if (isNoted) return;
        noted.count = 0;
        for (int i = 0; i < sorts.size(); i++) noteFlawsOf(sorts.get(i));
        isNoted = true;
    }

    private void noteFlawsOf(Sort sort) {
        if (standsBadly(sort.first, OUT, sort, 0)) noted.note(sort.number, BAD_PARENT, 0);
        if (standsBadly(sort.second, OUT, sort, 0)) noted.note(sort.number, BAD_PARENT, 1);
        room.tidy();
        Arrays.fill(met, NONE);
        int one = sort.many > 0 ? FIRST_PARAMETER : ANY_TYPE;
        int other = sort.many > 1 ? SECOND_PARAMETER : ANY_TYPE;
        if (isMixed(nodes.make(sort.number, one, other), 0)) noted.note(sort.number, MIXED_ROAD, NONE);
        for (int i = 0; i < methods.size(); i++) {
            Method at = methods.get(i);
            if (at.sort != sort.number) continue;
            boolean isBad = standsBadly(at.one, IN, sort, 0) || standsBadly(at.other, IN, sort, 0)
                    || standsBadly(at.result, OUT, sort, 0);
            if (isBad) noted.note(sort.number, BAD_METHOD, at.number);
        }
    }

    /** Whether two of one SORT, and not the SAME, come on the way up. What is the SAME has the same way up. */
    private boolean isMixed(int from, int level) {
        int form = nodes.formOf(from);
        if (form >= sorts.size() || form >= met.length || level > MOST_SORTS) return false;
        if (met[form] != NONE) return met[form] != from;
        met[form] = from;
        Sort of = sorts.get(form);
        int one = nodes.partOf(from, 0);
        int other = nodes.partOf(from, 1);
        return isMixed(room.put(of.first, one, other, NONE, 0), level + 1)
                || isMixed(room.put(of.second, one, other, NONE, 0), level + 1);
    }

    /** Whether a PARAMETER of the SORT stands where it must not, in what itself stands this way. */
    private boolean standsBadly(int in, int way, Sort sort, int level) {
        if ((nodes.openOf(in) & (HAS_FIRST | HAS_SECOND)) == 0 || level > MOST_LEVELS) return false;
        int form = nodes.formOf(in);
        if (form >= sorts.size()) {
            int how = sort.howAt(in == FIRST_PARAMETER ? 0 : 1);
            return how != FIXED && how != way;
        }
        Sort of = sorts.get(form);
        return standsBadly(nodes.partOf(in, 0), turned(way, of.howOne), sort, level + 1)
                || standsBadly(nodes.partOf(in, 1), turned(way, of.howOther), sort, level + 1);
    }

    private static int turned(int way, int how) {
        if (way == FIXED || how == FIXED) return FIXED;
        return how == OUT ? way : OUT + IN - way;
    }

    private static long mixed(long d, long x) {
        return d * DIGEST_FACTOR + x;
    }

    private long mixedExpression(long before, Expression at) {
        long d = before;
        for (int k = 0; k <= 5; k++) d = mixed(d, room.lineAt(at.result, k));
        d = mixed(d, at.seen);
        d = mixed(d, at.taking);
        d = mixed(d, at.chosen);
        d = mixed(d, room.lineAt(at.own, 0));
        return mixed(d, at.hasFault ? 1 : 0);
    }

    private static final class Sort {
        int number;
        int many;
        /** FIXED, if it has no such PARAMETER. */
        int howOne;
        int howOther;
        int first = NONE;
        int second = NONE;
        /** The SORTS that come on its ROAD, one bit each. */
        int above;
        /** These in the order in which they come. */
        final int[] way = new int[MOST_SORTS];
        int length;

        int howAt(int parameter) {
            return parameter == 0 ? howOne : howOther;
        }

        boolean goesTo(int sort) {
            return sort >= 0 && sort < MOST_SORTS && (above >> sort & 1) == 1;
        }

        int wayAt(int place) {
            return place < 0 || place >= length || place >= way.length ? NONE : way[place];
        }

        int placeOf(int sort) {
            for (int i = 0; i < length && i < way.length; i++) {
                if (way[i] == sort) return i;
            }
            return NONE;
        }

        void startWay() {
            length = 0;
            above = 0;
            pass(number);
        }

        void goOn(Sort parent) {
            for (int i = 0; i < parent.length; i++) pass(parent.wayAt(i));
        }

        private void pass(int sort) {
            if (sort < 0 || goesTo(sort) || length >= way.length) return;
            above |= 1 << sort;
            way[length] = sort;
            length++;
        }
    }

    /**
     * All TYPES that are in use, by numbers, two words each. What is built in the same way has one number, if there is
     * no JOIN in it. A JOIN has a number of its own as long as it isn't looked at; then it is linked to what it comes to
     * be, or takes the form of that.
     */
    private static final class Nodes {
        /** How many PARAMETERS each SORT has. */
        final int[] many = new int[MOST_SORTS];
        /** The reach of a SORT by itself, and what it adds to that of the first and of the second TYPE in it. */
        private final int[] alone = new int[MOST_SORTS];
        private final int[] overOne = new int[MOST_SORTS];
        private final int[] overOther = new int[MOST_SORTS];
        /** For a JOIN the sign that it is one and both of it, else what is OPEN in it; the next one of its chain. */
        private long[] first = new long[FIRST_NODES];
        /** Its form, the TYPES in it, how deep it is or can be, and its reach: how far down it and what it meets can go. */
        private long[] second = new long[FIRST_NODES];
        private int[] heads = new int[FIRST_NODES / NODES_A_HEAD];
        private long[] marks = new long[FIRST_NODES >> 6];
        private long[] pins = new long[FIRST_NODES >> 6];
        private int used = LEAVES;
        private int free = 0;
        private int count = LEAVES;
        private int marked = 0;
        /** How many are marked. */
        private int live = 0;

        Nodes() {
            for (int i = 0; i < LEAVES; i++) second[i] = (long) LEAF << FORM_AT;
            first[OWN] = (long) HAS_OWN << UPPER;
            first[FIRST_PARAMETER] = (long) HAS_FIRST << UPPER;
            first[SECOND_PARAMETER] = (long) HAS_SECOND << UPPER;
        }

        int formOf(int id) {
            return id >= 0 && id < second.length ? (int) (second[id] >>> FORM_AT) : LEAF;
        }

        /** What is found there by now. What a JOIN is linked to can have been linked to another one later. */
        int through(int id) {
            int at = id;
            for (int n = 0; n < MOST_LINKS && at >= 0 && at < second.length; n++) {
                if ((int) (second[at] >>> FORM_AT) != LINKED) break;
                at = (int) (second[at] >>> ONE_AT) & ID_MASK;
            }
            return at;
        }

        boolean isJoin(int id) {
            return id >= 0 && id < second.length && first[id] < 0;
        }

        /** Whether it is a JOIN that wasn't looked at. */
        boolean isShut(int id) {
            return id >= 0 && id < second.length && (int) (second[id] >>> FORM_AT) == SHUT;
        }

        /** The first or second TYPE in it. */
        int partOf(int id, int turn) {
            if (id < 0 || id >= second.length) return ANY_TYPE;
            return (int) (second[id] >>> (turn == 0 ? ONE_AT : OTHER_AT)) & ID_MASK;
        }

        /** The first or second of a JOIN. */
        int joinedOf(int id, int turn) {
            if (id < 0 || id >= second.length) return ANY_TYPE;
            return (int) (first[id] >>> (turn == 0 ? UPPER : ID_BITS)) & ID_MASK;
        }

        /** What is OPEN in it. */
        int openOf(int id) {
            return id < 0 || id >= second.length || first[id] < 0 ? 0 : (int) (first[id] >>> UPPER) & OPEN;
        }

        /** The DEPTH of what is no JOIN; of a JOIN one that it doesn't go beyond, or UNKNOWN. */
        int depthOf(int id) {
            return id >= 0 && id < second.length ? (int) (second[id] >>> DEPTH_AT) & DEPTH_MASK : 0;
        }

        void putMostDepth(int id, int depth) {
            if (id < 0 || id >= second.length || depth < 0 || depth >= UNKNOWN) return;
            second[id] = second[id] & ~((long) DEPTH_MASK << DEPTH_AT) | (long) depth << DEPTH_AT;
        }

        void putForm(int id, int form, int one, int other) {
            if (id < 0 || id >= second.length) return;
            second[id] = (long) form << FORM_AT | (long) one << ONE_AT | (long) other << OTHER_AT
                    | second[id] & LOWER_MASK;
        }

        /** The number of what is built so; a JOIN, if the form is SHUT. */
        int make(int form, int one, int other) {
            boolean isJoin = form == SHUT;
            long parts = (long) form << FORM_AT | (long) one << ONE_AT | (long) other << OTHER_AT;
            long key = isJoin ? JOIN_BIT | (long) one << UPPER | (long) other << ID_BITS : parts;
            int head = (int) (key * SPREAD >>> HEAD_AT) & (heads.length - 1);
            int at = heads[head];
            for (int n = 0; n < MOST_NODES && at > 0 && at < second.length; n++) {
                long found = isJoin ? first[at] & ~(long) ID_MASK : second[at] & ~LOWER_MASK;
                if (found == key && first[at] < 0 == isJoin) return at;
                at = (int) first[at] & ID_MASK;
            }
            int added = free > 0 ? free : used;
            int most = Math.max(added, Math.max(one, other));
            if (most >= second.length || one < 0 || other < 0) return ANY_TYPE;
            if (free > 0) free = (int) first[added] & ID_MASK;
            else used++;
            count++;
            int a = (int) second[one] & DEPTH_MASK;
            int b = (int) second[other] & DEPTH_MASK;
            int depth = (int) Math.max(second[one] >>> DEPTH_AT & DEPTH_MASK, second[other] >>> DEPTH_AT & DEPTH_MASK);
            if (isJoin) {
                // it goes down in both at once; where one goes on by itself, that is from a ROAD, or lies in what was given
                int both = Math.min(Math.max(a, b), Math.min(a, b) + DEEPEST_TOLD - 1);
                depth = Math.max(depth, both < ENDLESS ? both : UNKNOWN);
                first[added] = key | heads[head];
                second[added] = (long) SHUT << FORM_AT | (long) depth << DEPTH_AT | Math.max(a, b);
            } else {
                boolean isAlone = form >= many.length || many[form] == 0;
                int over = form >= many.length ? 0 : Math.max(overOne[form] + a, overOther[form] + b);
                int reach = form >= many.length ? 0 : Math.max(alone[form], over);
                first[added] = (first[one] | first[other]) & ((long) OPEN << UPPER) | heads[head];
                second[added] = parts | (isAlone ? 0L : depth + 1L << DEPTH_AT) | Math.min(reach, ENDLESS);
            }
            heads[head] = added;
            return added;
        }

        boolean isFull() {
            return count + RESERVE >= second.length;
        }

        /** Whether so much is marked that it is time to forget, or to make more room. */
        boolean isCrowded() {
            return live > second.length / CROWDED_SHARE;
        }

        boolean canGrow() {
            return second.length < MOST_NODES;
        }

        /** Finds how far down what is of the SORT can go, as its PARENTS have it. */
        void lift(int sort, int parent, int other) {
            if (sort < 0 || sort >= many.length) return;
            alone[sort] = Math.max(0, Math.max(liftOf(parent, NONE, 0), liftOf(other, NONE, 0)));
            for (int p = 0; p < many[sort]; p++) {
                int lifted = Math.max(liftOf(parent, FIRST_PARAMETER + p, 0), liftOf(other, FIRST_PARAMETER + p, 0));
                if (p == 0) overOne[sort] = Math.max(1, lifted);
                else overOther[sort] = Math.max(1, lifted);
            }
        }

        /** What a PARENT adds to the reach of what is in the place of a PARAMETER; its reach by itself, if that is NONE. */
        private int liftOf(int in, int parameter, int level) {
            int form = formOf(in);
            if (form >= many.length || level > MOST_LEVELS) {
                return in == parameter || in < FIRST_PARAMETER && parameter == NONE ? 0 : NEVER;
            }
            int most = parameter == NONE ? alone[form] : NEVER;
            if (many[form] > 0) most = Math.max(most, overOne[form] + liftOf(partOf(in, 0), parameter, level + 1));
            if (many[form] > 1) most = Math.max(most, overOther[form] + liftOf(partOf(in, 1), parameter, level + 1));
            return most < 0 ? NEVER : Math.min(most, ENDLESS);
        }

        /** Finds the reach of what is told, when a PARENT was told. */
        int measure(int id, int level) {
            int form = formOf(id);
            if (form >= many.length || level > MOST_LEVELS || id < 0 || id >= second.length) return 0;
            int one = many[form] < 1 ? 0 : overOne[form] + measure(partOf(id, 0), level + 1);
            int other = many[form] < 2 ? 0 : overOther[form] + measure(partOf(id, 1), level + 1);
            int reach = Math.min(Math.max(alone[form], Math.max(one, other)), ENDLESS);
            second[id] = second[id] & ~(long) DEPTH_MASK | reach;
            return reach;
        }

        /** Whether no JOIN is in it, and it is not so deep that one had better be. */
        boolean isFlat(int id) {
            return id >= 0 && id < second.length && first[id] >= 0 && (second[id] >>> DEPTH_AT & DEPTH_MASK) < DEEPEST_FLAT;
        }

        void need(int id) {
            if (id < LEAVES || id >= used || id >= second.length || id >> 6 >= marks.length) return;
            long bit = 1L << (id & 63);
            if ((marks[id >> 6] & bit) != 0) return;
            marks[id >> 6] |= bit;
            first[id] = first[id] & ~(long) ID_MASK | marked;
            marked = id;
            live++;
        }

        boolean isNeeded(int id) {
            return id < LEAVES || id >> 6 < marks.length && (marks[id >> 6] >> (id & 63) & 1) == 1;
        }

        /** As need; what was found out about a JOIN and some levels of what is in it stays, too. */
        void needRoot(int id, int level) {
            int at = id;
            int form = LINKED;
            for (int n = 0; n < MOST_LINKS && form == LINKED; n++) {
                if (at < LEAVES || at >= used || at >= second.length || at >> 6 >= pins.length) return;
                long bit = 1L << (at & 63);
                if ((marks[at >> 6] & bit) == 0) {
                    marks[at >> 6] |= bit;
                    first[at] = first[at] & ~(long) ID_MASK | marked;
                    marked = at;
                    live++;
                }
                form = (int) (second[at] >>> FORM_AT);
                if (first[at] >= 0 || form == SHUT || level < 0) return;
                pins[at >> 6] |= bit;
                if (form == LINKED) at = (int) (second[at] >>> ONE_AT) & ID_MASK;
            }
            needRoot((int) (second[at] >>> ONE_AT) & ID_MASK, level - 1);
            needRoot((int) (second[at] >>> OTHER_AT) & ID_MASK, level - 1);
        }

        /** Marks what is in those that are marked; what was found out about JOINS is forgotten, if it isn't pinned. */
        void needInner(boolean isForgotten) {
            for (int n = 0; n < MOST_NODES && marked > 0 && marked < second.length; n++) {
                int at = marked;
                marked = (int) first[at] & ID_MASK;
                if (first[at] < 0) {
                    need((int) (first[at] >>> UPPER) & ID_MASK);
                    need((int) (first[at] >>> ID_BITS) & ID_MASK);
                    boolean isPinned = at >> 6 < pins.length && (pins[at >> 6] >> (at & 63) & 1) == 1;
                    if (isForgotten && !isPinned) continue;
                }
                int form = (int) (second[at] >>> FORM_AT);
                if (form == SHUT) continue;
                need((int) (second[at] >>> ONE_AT) & ID_MASK);
                if (form != LINKED) need((int) (second[at] >>> OTHER_AT) & ID_MASK);
            }
        }

        /** A JOIN that stays, when not all that it comes to be does, is to be looked at again. */
        void shutJoins() {
            for (int id = LEAVES; id < used && id < second.length; id++) {
                int form = (int) (second[id] >>> FORM_AT);
                if (first[id] >= 0 || form == SHUT || !isNeeded(id)) continue;
                boolean isWhole = isNeeded((int) (second[id] >>> ONE_AT) & ID_MASK)
                        && (form == LINKED || isNeeded((int) (second[id] >>> OTHER_AT) & ID_MASK));
                if (!isWhole) second[id] = (long) SHUT << FORM_AT | second[id] & LOWER_MASK;
            }
        }

        void unmark() {
            Arrays.fill(marks, 0L);
            Arrays.fill(pins, 0L);
            marked = 0;
            live = 0;
        }

        void grow() {
            int length = Math.min(second.length * GROWTH, MOST_NODES);
            first = Arrays.copyOf(first, length);
            second = Arrays.copyOf(second, length);
            marks = Arrays.copyOf(marks, (length >> 6) + 1);
            pins = Arrays.copyOf(pins, (length >> 6) + 1);
            int chains = heads.length;
            for (int n = 0; n < ID_BITS && chains * NODES_A_HEAD < length; n++) chains *= 2;
            heads = new int[chains];
        }

        /** Gives back what isn't marked. */
        void sweep() {
            Arrays.fill(heads, 0);
            int left = LEAVES;
            count = LEAVES;
            for (int id = LEAVES; id < used && id < second.length; id++) {
                if (!isNeeded(id)) continue;
                long key = first[id] < 0 ? first[id] & ~(long) ID_MASK : second[id] & ~LOWER_MASK;
                int head = (int) (key * SPREAD >>> HEAD_AT) & (heads.length - 1);
                first[id] = first[id] & ~(long) ID_MASK | heads[head];
                heads[head] = id;
                count++;
                left = id + 1;
            }
            used = left;
            free = 0;
            for (int id = used - 1; id >= LEAVES; id--) {
                if (isNeeded(id)) continue;
                second[id] = (long) FREE << FORM_AT;
                first[id] = free;
                free = id;
            }
            unmark();
        }
    }

    /** What was found out about pairs of TYPES; if there are too many, the older ones give way. */
    private static final class Pairs {
        /** 0 where nothing is; else the numbers of both TYPES and that for the pair. */
        private long[] slots = new long[FIRST_SLOTS];
        private int count = 0;
        private int turn = 0;

        void forget() {
            if (count > 0) Arrays.fill(slots, 0L);
            count = 0;
        }

        /** NONE, if there is no such pair. */
        int find(int a, int b) {
            long key = (long) a << ID_BITS | b;
            int slot = (int) (key * SPREAD >>> HEAD_AT) & (slots.length - SLOTS_A_ROW);
            for (int i = slot; i < slot + SLOTS_A_ROW && i < slots.length; i++) {
                if (slots[i] >>> VALUE_BITS == key) return (int) slots[i] & ID_MASK;
            }
            return NONE;
        }

        void keep(int a, int b, int number) {
            store(((long) a << ID_BITS | b) << VALUE_BITS | number);
        }

        boolean isCrowded() {
            return count * 2 >= slots.length && slots.length < MOST_SLOTS;
        }

        void grow() {
            long[] old = slots;
            slots = new long[Math.min(old.length * GROWTH, MOST_SLOTS)];
            count = 0;
            for (int i = 0; i < old.length; i++) {
                if (old[i] != 0) store(old[i]);
            }
        }

        private void store(long entry) {
            long key = entry >>> VALUE_BITS;
            int slot = (int) (key * SPREAD >>> HEAD_AT) & (slots.length - SLOTS_A_ROW);
            int place = NONE;
            for (int i = slot; i < slot + SLOTS_A_ROW && i < slots.length; i++) {
                if (slots[i] == 0 || slots[i] >>> VALUE_BITS == key) place = i;
            }
            if (place == NONE) {
                turn++;
                place = slot + (turn & SLOTS_A_ROW - 1);
            }
            if (place >= slots.length) return;
            if (slots[place] == 0) count++;
            slots[place] = entry;
        }

        /** To be called as long as what is needed is marked. */
        void purge(Nodes nodes) {
            for (int i = 0; i < slots.length; i++) {
                if (slots[i] == 0) continue;
                int a = (int) (slots[i] >>> VALUE_BITS + ID_BITS) & ID_MASK;
                int b = (int) (slots[i] >>> VALUE_BITS) & ID_MASK;
                boolean isKept = nodes.isNeeded(a) && nodes.isNeeded(b)
                        && (b >= LEAVES || nodes.isNeeded((int) slots[i] & ID_MASK));
                if (isKept) continue;
                slots[i] = 0;
                count--;
            }
        }
    }

    /** How long LINES are, as far as there is room; there is no row before one is kept. */
    private static final class Sizes {
        /** 0 where nothing is; else the number of a TYPE and how long its LINE is. */
        private long[] slots = new long[0];
        /** How many were kept since there is so much room, those that gave way, too. */
        private int count = 0;

        void forget() {
            if (count > 0) Arrays.fill(slots, 0L);
            count = 0;
        }

        /** 0, if it isn't known. */
        int find(int id) {
            int slot = id & (slots.length - 1);
            boolean isThere = slot >= 0 && slot < slots.length && slots[slot] >>> SIZE_BITS == id;
            return isThere ? (int) (slots[slot] & SIZE_MASK) : 0;
        }

        void keep(int id, int size) {
            if (count * 2 >= slots.length && slots.length < MOST_SIZES) grow();
            int slot = id & (slots.length - 1);
            if (slot < 0 || slot >= slots.length) return;
            slots[slot] = (long) id << SIZE_BITS | size;
            if (count < MOST_SIZES) count++;
        }

        private void grow() {
            long[] grown = new long[Math.min(Math.max(slots.length * GROWTH, FIRST_SIZES), MOST_SIZES)];
            count = 0;
            for (int i = 0; i < slots.length; i++) {
                int slot = (int) (slots[i] >>> SIZE_BITS) & (grown.length - 1);
                if (slots[i] == 0 || slot < 0 || slot >= grown.length) continue;
                grown[slot] = slots[i];
                count++;
            }
            slots = grown;
        }

        /** To be called as long as what is needed is marked. */
        void purge(Nodes nodes) {
            count = 0;
            for (int i = 0; i < slots.length; i++) {
                if (slots[i] == 0) continue;
                if (nodes.isNeeded((int) (slots[i] >>> SIZE_BITS))) count++;
                else slots[i] = 0;
            }
        }
    }

    /** A question that stands open. */
    private static final class Step {
        int kind;
        /** The JOIN that is looked at, for FORM. */
        int self;
        int a;
        /** A TYPE, for ORDER and FORM. */
        int b;
        /** A SORT, for ROAD; how deep it has to be, for DEPTH; how many places were left, for LINE. */
        int wanted;
        /** Those on their ROADS that are of one SORT, whose TYPES are gone along. */
        int x;
        int y;
        /** What the TYPES in these come to be together. */
        int one;
        int other;
        int phase;
        int place;
        int turn;
        /** Whether a part at an IN place is asked for the other way round; for DEPTH whether the second one comes first. */
        boolean isBack;
        /** Whether what was asked last for this has its answer by now. */
        boolean isAnswered;

        void take(int part) {
            if (turn == 0) one = part;
            else other = part;
            turn++;
            isBack = false;
        }
    }

    /** All TYPES that are in use, and how they lie to one another. */
    private static final class Room {
        final ArrayList<Sort> sorts = new ArrayList<>();
        final Nodes nodes = new Nodes();
        final int[] told = new int[MOST_TYPES];
        int tellings = 0;
        /** What else must stay, if it is tidied, the latest last. */
        private int[] held = new int[FIRST_HELD];
        int holding = 0;
        /** For a pair whether one is UNDER the other; for a TYPE and a SORT that on its ROAD. */
        private final Pairs pairs = new Pairs();
        /** The questions that stand open, each one for the one before it. */
        private final ArrayList<Step> steps = new ArrayList<>();
        private int asking = 0;
        /** Whether something was given back since the last question was asked. */
        private boolean isTidied = false;
        /** The last answer. */
        private int last = NONE;
        /** How many places of a LINE are to be passed, and how many of them still are. */
        private int passing = 0;
        private int left = 0;
        private final Sizes sizes = new Sizes();

        Room() {
            for (int i = 0; i <= OWN; i++) told[i] = i;
            tellings = OWN + 1;
        }

        int tell(int id) {
            if (tellings >= told.length) return NONE;
            told[tellings] = id;
            tellings++;
            return tellings - 1;
        }

        int toldAt(int type) {
            return type < 0 || type >= tellings || type >= told.length ? NONE : told[type];
        }

        void hold(int id) {
            if (id < LEAVES) return;
            if (holding >= held.length) held = Arrays.copyOf(held, held.length * 2);
            held[holding] = id;
            holding++;
        }

        void letGo(int from) {
            holding = Math.min(holding, Math.max(from, 0));
        }

        /** To be called only between two questions, when all that is still wanted is told or held. */
        void tidy() {
            isTidied = false;
            if (nodes.isFull()) giveBack();
        }

        /** What was found out may hold no longer; nothing but what is told stays. */
        void startAnew() {
            holding = 0;
            asking = 0;
            pairs.forget();
            sizes.forget();
            for (int i = 0; i < tellings && i < told.length; i++) nodes.need(told[i]);
            nodes.needInner(false);
            nodes.sweep();
            for (int i = 0; i < tellings && i < told.length; i++) nodes.measure(told[i], 0);
        }

        /**
         * Forgets what nobody needs; the second time within one question there is made more room, too. If all that was
         * found out about JOINS is too much, it is forgotten, too, but for what lies next to an open question, as else
         * that could never be answered.
         */
        private void giveBack() {
            needRoots(false);
            nodes.needInner(false);
            if ((isTidied || nodes.isCrowded()) && nodes.canGrow()) {
                nodes.grow();
            } else if (nodes.isCrowded()) {
                nodes.unmark();
                needRoots(true);
                nodes.needInner(true);
                nodes.shutJoins();
            }
            isTidied = true;
            pairs.purge(nodes);
            sizes.purge(nodes);
            nodes.sweep();
        }

        private void needRoots(boolean isPinned) {
            for (int i = 0; i < tellings && i < told.length; i++) nodes.need(told[i]);
            int level = isPinned ? DEEPEST_TOLD : NONE;
            for (int i = 0; i < holding && i < held.length; i++) nodes.needRoot(held[i], level);
            for (int i = 0; i < asking && i < steps.size(); i++) {
                Step at = steps.get(i);
                nodes.needRoot(at.self, level);
                nodes.needRoot(at.a, level);
                if (at.kind == ORDER || at.kind == FORM) nodes.needRoot(at.b, level);
                nodes.needRoot(at.x, level);
                nodes.needRoot(at.y, level);
                nodes.needRoot(at.one, level);
                nodes.needRoot(at.other, level);
            }
            nodes.needRoot(last, level);
        }

        /** Puts TYPES in the place of the PARAMETERS and of the OWN TYPE; NONE leaves one as it is. */
        int put(int in, int one, int other, int own, int level) {
            int wanted = (one == NONE ? 0 : HAS_FIRST) | (other == NONE ? 0 : HAS_SECOND) | (own == NONE ? 0 : HAS_OWN);
            if ((nodes.openOf(in) & wanted) == 0 || level > MOST_LEVELS) return in;
            if (in == FIRST_PARAMETER) return one;
            if (in == SECOND_PARAMETER) return other;
            if (in == OWN) return own;
            int first = put(nodes.partOf(in, 0), one, other, own, level + 1);
            int second = put(nodes.partOf(in, 1), one, other, own, level + 1);
            if (nodes.depthOf(first) >= DEEPEST_TOLD) first = ANY_TYPE;
            if (nodes.depthOf(second) >= DEEPEST_TOLD) second = ANY_TYPE;
            return nodes.make(nodes.formOf(in), first, second);
        }

        /** As put, for the PARAMETERS; there are the TYPES in it, and there in cut what they are inside of a SORT. */
        int putParts(int in, int there, int cut) {
            if (in == FIRST_PARAMETER) return nodes.through(nodes.partOf(there, 0));
            if (in == SECOND_PARAMETER) return nodes.through(nodes.partOf(there, 1));
            return put(in, nodes.partOf(cut, 0), nodes.partOf(cut, 1), NONE, 0);
        }

        int joinOf(int a, int b) {
            int p = nodes.through(a);
            int q = nodes.through(b);
            if (p == q) return p;
            if (p == ANY_TYPE || q == ANY_TYPE) return ANY_TYPE;
            if (p == NOTHING_TYPE) return q;
            if (q == NOTHING_TYPE) return p;
            return nodes.through(nodes.make(SHUT, p, q));
        }

        int depthOf(int id) {
            int at = nodes.through(id);
            if (!nodes.isJoin(at)) return nodes.depthOf(at);
            int deepest = 0;
            for (int n = 0; n < MOST_NODES; n++) {
                int found = ask(DEPTH, at, n == 0 ? 0 : deepest + 1);
                if (found < deepest) break;
                deepest = found;
            }
            return deepest;
        }

        int lineAt(int id, int k) {
            if (id == NONE || k < 0) return NO_PLACE;
            passing = k;
            left = k;
            return ask(LINE, id, NONE);
        }

        /**
         * Each step goes down in one TYPE and along the ROAD of the other, to SORTS with smaller numbers, so none comes
         * again while it stands open. What isn't there is UNDER what isn't there.
         */
        int ask(int kind, int a, int b) {
            if (kind == ORDER && (a == NONE || b == NONE)) return a == b ? YES : NO;
            asking = 0;
            last = NONE;
            isTidied = false;
            open(kind, a, b);
            for (long n = 0; n < MOST_STEPS && asking > 0 && asking <= steps.size(); n++) {
                if (nodes.isFull()) giveBack();
                if (pairs.isCrowded()) pairs.grow();
                Step top = steps.get(asking - 1);
                switch (top.kind) {
                    case ORDER: stepOrder(top); break;
                    case FORM: stepForm(top); break;
                    case MEET: stepMeet(top); break;
                    case PARTS: stepParts(top); break;
                    case ROAD: stepRoad(top); break;
                    case SMALL: stepSmall(top); break;
                    case DEPTH: stepDepth(top); break;
                    default: stepLine(top);
                }
            }
            return last;
        }

        private void open(int kind, int a, int b) {
            if (asking >= steps.size()) steps.add(new Step());
            Step added = steps.get(asking);
            asking++;
            added.kind = kind;
            added.self = NONE;
            added.a = a;
            added.b = b;
            added.wanted = b;
            added.x = NONE;
            added.y = NONE;
            added.one = ANY_TYPE;
            added.other = ANY_TYPE;
            added.phase = 0;
            added.place = 0;
            added.turn = 0;
            added.isBack = false;
            added.isAnswered = false;
        }

        private void answer(int answer) {
            last = answer;
            asking--;
        }

        /** Whether a is UNDER b, as far as it is known at once; NONE if it isn't. */
        private int known(int a, int b) {
            if (a == b || a == NOTHING_TYPE || b == ANY_TYPE) return YES;
            // what is in a JOIN is UNDER it
            if (nodes.isJoin(b) && (nodes.joinedOf(b, 0) == a || nodes.joinedOf(b, 1) == a)) return YES;
            int low = nodes.formOf(a);
            int high = nodes.formOf(b);
            if (low == SHUT || high == SHUT) return NONE;
            if (low >= sorts.size() || high >= sorts.size() || !sorts.get(low).goesTo(high)) return NO;
            return pairs.find(a, b);
        }

        /** Whether one is UNDER the other, when it is known; NONE, and it is asked for, when it isn't. */
        private int order(Step s, int a, int b) {
            if (s.isAnswered) {
                s.isAnswered = false;
                return last;
            }
            int low = nodes.through(a);
            int high = nodes.through(b);
            if (low == high || low == NOTHING_TYPE || high == ANY_TYPE) return YES;
            open(ORDER, low, high);
            s.isAnswered = true;
            return NONE;
        }

        /** That of a SORT on the ROAD of one, when it is known; NONE, and it is asked for, when it isn't. */
        private int member(Step s, int from, int sort) {
            if (s.isAnswered) {
                s.isAnswered = false;
                return last;
            }
            int at = nodes.through(from);
            if (nodes.formOf(at) == sort) return at;
            int found = pairs.find(at, sort);
            if (found != NONE) return found;
            open(ROAD, at, sort);
            s.isAnswered = true;
            return NONE;
        }

        private void stepOrder(Step s) {
            s.a = nodes.through(s.a);
            s.b = nodes.through(s.b);
            s.x = nodes.through(s.x);
            if (s.phase == 0) {
                int answer = known(s.a, s.b);
                if (answer != NONE) {
                    answer(answer);
                    return;
                }
                int shut = nodes.isShut(s.a) ? s.a : nodes.isShut(s.b) ? s.b : NONE;
                if (shut != NONE) {
                    open(FORM, shut, NONE);
                    return;
                }
                s.phase = 1;
            }
            int form = nodes.formOf(s.b);
            if (s.phase == 1) {
                s.x = member(s, s.a, form);
                if (s.x == NONE) return;
                s.phase = 2;
            }
            int answer = form >= sorts.size() ? NO : YES;
            Sort sort = answer == NO ? null : sorts.get(form);
            for (; answer == YES && sort != null && s.turn < sort.many; s.turn++) {
                int x = nodes.partOf(s.x, s.turn);
                int y = nodes.partOf(s.b, s.turn);
                int how = sort.howAt(s.turn);
                // at a FIXED place there is never a JOIN, so the SAME has the same number
                if (how == FIXED) answer = x == y ? YES : NO;
                else answer = how == OUT ? order(s, x, y) : order(s, y, x);
                if (answer == NONE) return;
            }
            pairs.keep(s.a, s.b, answer);
            answer(answer);
        }

        /** Finds what a JOIN comes to be. */
        private void stepForm(Step s) {
            if (s.phase == 0) {
                int at = nodes.through(s.a);
                if (!nodes.isShut(at)) {
                    answer(at);
                    return;
                }
                s.self = at;
                s.a = nodes.joinedOf(at, 0);
                s.b = nodes.joinedOf(at, 1);
                s.phase = 1;
            }
            s.a = nodes.through(s.a);
            s.b = nodes.through(s.b);
            if (s.phase == 1) {
                int shut = nodes.isShut(s.a) ? s.a : nodes.isShut(s.b) ? s.b : NONE;
                if (shut != NONE) {
                    open(FORM, shut, NONE);
                    return;
                }
                s.phase = 2;
            }
            int answer = s.phase == 2 ? order(s, s.a, s.b) : order(s, s.b, s.a);
            if (answer == NONE) return;
            if (answer == YES) {
                last = s.phase == 2 ? s.b : s.a;
                nodes.putForm(s.self, LINKED, last, ANY_TYPE);
                asking--;
            } else if (s.phase == 2) {
                s.phase = 3;
            } else {
                s.kind = MEET;
                s.phase = 0;
            }
        }

        /** Goes along the ROAD of a to the next one for which there is one of the same SORT on the ROAD of b. */
        private void stepMeet(Step s) {
            s.a = nodes.through(s.a);
            s.b = nodes.through(s.b);
            s.x = nodes.through(s.x);
            int low = nodes.formOf(s.a);
            int high = nodes.formOf(s.b);
            int sort = NONE;
            if (low < sorts.size() && high < sorts.size()) {
                Sort from = sorts.get(low);
                while (s.place < from.length && !sorts.get(high).goesTo(from.wayAt(s.place))) s.place++;
                sort = from.wayAt(s.place);
            }
            if (sort == NONE) {
                nodes.putForm(s.self, LINKED, ANY_TYPE, ANY_TYPE);
                answer(ANY_TYPE);
                return;
            }
            if (s.phase == 0) {
                s.x = member(s, s.a, sort);
                if (s.x == NONE) return;
                s.phase = 1;
            }
            s.y = member(s, s.b, sort);
            if (s.y == NONE) return;
            s.kind = PARTS;
            s.turn = 0;
            s.one = ANY_TYPE;
            s.other = ANY_TYPE;
            s.isBack = false;
        }

        /** Whether the parts go together, one by one, and what they come to be. */
        private void stepParts(Step s) {
            s.a = nodes.through(s.a);
            s.b = nodes.through(s.b);
            s.x = nodes.through(s.x);
            s.y = nodes.through(s.y);
            int form = nodes.formOf(s.x);
            Sort sort = form >= sorts.size() ? null : sorts.get(form);
            for (int n = 0; n < MOST_WAYS && sort != null && s.turn < sort.many; n++) {
                int x = nodes.through(nodes.partOf(s.x, s.turn));
                int y = nodes.through(nodes.partOf(s.y, s.turn));
                int how = sort.howAt(s.turn);
                if (how == OUT) {
                    s.take(joinOf(x, y));
                    continue;
                }
                int answer = how == FIXED ? x == y ? YES : NO : s.isBack ? order(s, y, x) : order(s, x, y);
                if (answer == NONE) return;
                if (answer == YES) {
                    s.take(s.isBack ? y : x);
                } else if (how == IN && !s.isBack) {
                    s.isBack = true;
                } else {
                    s.kind = MEET;
                    s.phase = 0;
                    s.place++;
                    return;
                }
            }
            putForm(s, form);
        }

        private void putForm(Step s, int form) {
            int one = nodes.through(s.one);
            int other = nodes.through(s.other);
            boolean isFlat = nodes.isFlat(one) && nodes.isFlat(other);
            last = isFlat ? nodes.make(form, one, other) : s.self;
            nodes.putForm(s.self, isFlat ? LINKED : form, isFlat ? last : one, isFlat ? ANY_TYPE : other);
            asking--;
        }

        /** The TYPE as what it is in another one, if it isn't too deep for that; TOO_DEEP if it is. NONE: not yet known. */
        private int small(int id, int levels) {
            int at = nodes.through(id);
            int form = nodes.formOf(at);
            if (form == SHUT) {
                open(FORM, at, NONE);
                return NONE;
            }
            if (!nodes.isJoin(at)) return nodes.depthOf(at) <= levels ? at : TOO_DEEP;
            if (levels <= 0) return TOO_DEEP;
            int one = small(nodes.partOf(at, 0), levels - 1);
            if (one < 0) return one;
            int other = small(nodes.partOf(at, 1), levels - 1);
            if (other < 0) return other;
            return nodes.make(form, one, other);
        }

        private void stepSmall(Step s) {
            int found = small(s.a, DEEPEST_TOLD - 1);
            if (found != NONE) answer(found == TOO_DEEP ? ANY_TYPE : found);
        }

        /**
         * Finds that of a SORT on the ROAD. A JOIN climbs with what the TYPES in it are inside of a SORT; this alone is
         * the answer, if its own SORT is asked for.
         */
        private void stepRoad(Step s) {
            s.a = nodes.through(s.a);
            int at = s.a;
            int form = nodes.formOf(at);
            if (form == SHUT) {
                open(FORM, at, NONE);
                return;
            }
            if (nodes.isJoin(at)) {
                int one = small(nodes.partOf(at, 0), DEEPEST_TOLD - 1);
                int other = one == NONE ? NONE : small(nodes.partOf(at, 1), DEEPEST_TOLD - 1);
                if (one == NONE || other == NONE) return;
                at = nodes.make(form, one == TOO_DEEP ? ANY_TYPE : one, other == TOO_DEEP ? ANY_TYPE : other);
                if (one != TOO_DEEP && other != TOO_DEEP) nodes.putForm(s.a, LINKED, at, ANY_TYPE);
            }
            for (int n = 0; n < MOST_SORTS && form != s.wanted && form < sorts.size(); n++) {
                Sort of = sorts.get(form);
                int parent = nodes.formOf(of.first);
                boolean isFirst = parent < sorts.size() && sorts.get(parent).goesTo(s.wanted);
                at = put(isFirst ? of.first : of.second, nodes.partOf(at, 0), nodes.partOf(at, 1), NONE, 0);
                form = nodes.formOf(at);
            }
            if (at < LEAVES) {
                answer(ANY_TYPE);
                return;
            }
            pairs.keep(s.a, s.wanted, at);
            answer(at);
        }

        /** Finds a way down that is as long as it is wanted, or longer; NONE if there is none. */
        private void stepDepth(Step s) {
            if (s.isAnswered) {
                s.isAnswered = false;
                if (last != NONE) {
                    answer(last + 1);
                    return;
                }
                s.turn++;
            }
            s.a = nodes.through(s.a);
            int form = nodes.formOf(s.a);
            int most = nodes.depthOf(s.a);
            if (most < s.wanted && most != UNKNOWN) {
                answer(NONE);
                return;
            }
            if (form == SHUT) {
                open(FORM, s.a, NONE);
                return;
            }
            if (!nodes.isJoin(s.a)) {
                answer(most);
                return;
            }
            int one = nodes.through(nodes.partOf(s.a, 0));
            int other = nodes.through(nodes.partOf(s.a, 1));
            if (s.phase == 0) {
                s.phase = 1;
                s.isBack = nodes.depthOf(other) > nodes.depthOf(one);
            }
            for (; s.turn < 2; s.turn++) {
                int part = s.turn == 0 == s.isBack ? other : one;
                int deep = nodes.depthOf(part);
                if (deep != UNKNOWN && deep + 1 < s.wanted) continue;
                open(DEPTH, part, Math.max(s.wanted - 1, 0));
                s.isAnswered = true;
                return;
            }
            nodes.putMostDepth(s.a, s.wanted - 1);
            answer(NONE);
        }

        /** Passes over what is in it, to the place that is wanted. */
        private void stepLine(Step s) {
            s.a = nodes.through(s.a);
            int form = nodes.formOf(s.a);
            if (s.phase == 0) {
                if (form == SHUT) {
                    open(FORM, s.a, NONE);
                    return;
                }
                if (left == 0) {
                    last = form == LEAF ? ANY - s.a : form;
                    asking = 0;
                    return;
                }
                s.phase = 1;
                s.wanted = left;
                int known = sizes.find(s.a);
                if (known > 0 && known <= left) {
                    left -= known;
                    answer(NO_PLACE);
                    return;
                }
                left--;
            }
            Sort sort = form < sorts.size() ? sorts.get(form) : null;
            if (sort != null && s.turn < sort.many) {
                s.turn++;
                open(LINE, nodes.partOf(s.a, s.turn - 1), NONE);
                return;
            }
            if (passing - left >= LONG_LINE) sizes.keep(s.a, s.wanted - left);
            answer(NO_PLACE);
        }
    }

    private static final class Method {
        int number;
        int sort;
        int name;
        int one;
        int other;
        int result;
        boolean isGeneral;
    }

    /** A METHOD as it is SEEN. */
    private static final class Candidate {
        int method;
        int place;
        boolean isGeneral;
        int one;
        int other;
        int result;
        /** The OWN TYPE that was found; NONE if it is not GENERAL. */
        int own;
        boolean takes;
    }

    /** Finds the METHOD for a CALL, and tells what came on the way. */
    private static final class Chooser {
        final Room room = new Room();
        final ArrayList<Method> methods = new ArrayList<>();
        private final Candidate[] candidates = new Candidate[MOST_METHODS];
        private int[] hints = new int[FIRST_HINTS];
        private int hinted = 0;
        /** A METHOD that counts as not told. */
        int without = NONE;
        int seen = 0;
        int taking = 0;
        Candidate best = null;

        Chooser() {
            for (int i = 0; i < candidates.length; i++) candidates[i] = new Candidate();
        }

        /** The code of the FAULT; 0 without one. */
        int choose(int from, int name, int one, int other) {
            int before = room.holding;
            room.hold(from);
            room.hold(one);
            room.hold(other);
            seen = 0;
            int shape = room.ask(FORM, from, NONE);
            int form = room.nodes.formOf(shape);
            if (form < room.sorts.size()) {
                int cut = room.ask(ROAD, shape, form);
                room.hold(cut);
                lookAround(from, cut, room.sorts.get(form), name);
            }
            taking = 0;
            for (int i = 0; i < seen; i++) {
                Candidate at = candidates[i];
                at.takes = (at.one == NONE) == (one == NONE) && (at.other == NONE) == (other == NONE);
                if (!at.takes) continue;
                if (at.isGeneral) {
                    hinted = 0;
                    gatherHints(at.one, one, 0);
                    gatherHints(at.other, other, 0);
                    settleOwn(at);
                }
                at.takes = room.ask(ORDER, one, at.one) == YES && room.ask(ORDER, other, at.other) == YES;
                if (at.takes) taking++;
            }
            best = null;
            for (int i = 0; i < seen && best == null; i++) {
                if (candidates[i].takes && isBest(candidates[i])) best = candidates[i];
            }
            room.letGo(before);
            if (seen == 0) return NONE_SEEN;
            if (taking == 0) return NONE_TAKES;
            return best == null ? NONE_BEST : 0;
        }

        /** Looks for METHODS along the ROAD; inside of a SORT it itself is what it is when it is cut. */
        private void lookAround(int given, int cut, Sort sort, int name) {
            for (int i = 0; i < methods.size() && seen < candidates.length; i++) {
                Method at = methods.get(i);
                boolean isSeen = at.name == name && at.number != without && sort.goesTo(at.sort);
                if (!isSeen) continue;
                room.tidy();
                int from = room.nodes.through(given);
                int there = at.sort == sort.number ? from : room.ask(ROAD, from, at.sort);
                int within = at.sort == sort.number ? cut : there;
                Candidate added = candidates[seen];
                seen++;
                added.method = at.number;
                added.place = sort.placeOf(at.sort);
                added.isGeneral = at.isGeneral;
                added.one = at.one == NONE ? NONE : room.putParts(at.one, there, within);
                added.other = at.other == NONE ? NONE : room.putParts(at.other, there, within);
                added.result = room.putParts(at.result, there, within);
                added.own = NONE;
                holdAll(added);
            }
        }

        private void holdAll(Candidate at) {
            room.hold(at.one);
            room.hold(at.other);
            room.hold(at.result);
            room.hold(at.own);
        }

        private void settleOwn(Candidate at) {
            for (int i = 0; i < hinted && at.own == NONE; i++) {
                boolean isAbove = true;
                for (int j = 0; j < hinted && isAbove; j++) isAbove = room.ask(ORDER, hints[j], hints[i]) == YES;
                if (isAbove) at.own = hints[i];
            }
            if (at.own == NONE) at.own = ANY_TYPE;
            int within = room.ask(SMALL, at.own, NONE);
            room.hold(within);
            room.tidy();
            at.one = putOwn(at.one, at.own, within);
            at.other = putOwn(at.other, at.own, within);
            at.result = putOwn(at.result, at.own, within);
            holdAll(at);
        }

        private int putOwn(int in, int own, int within) {
            return in == OWN ? own : room.put(in, NONE, NONE, within, 0);
        }

        private void gatherHints(int given, int taken, int level) {
            if ((room.nodes.openOf(given) & HAS_OWN) == 0 || taken == NONE || level > MOST_LEVELS) return;
            int form = room.nodes.formOf(given);
            if (form >= room.sorts.size()) {
                if (hinted >= hints.length) hints = Arrays.copyOf(hints, hints.length * 2);
                hints[hinted] = taken;
                hinted++;
                room.hold(taken);
                return;
            }
            int from = room.ask(FORM, taken, NONE);
            int own = room.nodes.formOf(from);
            if (own >= room.sorts.size() || !room.sorts.get(own).goesTo(form)) return;
            int at = own == form ? from : room.ask(ROAD, from, form);
            int one = room.nodes.partOf(at, 0);
            int other = room.nodes.partOf(at, 1);
            room.hold(one);
            room.hold(other);
            gatherHints(room.nodes.partOf(given, 0), one, level + 1);
            gatherHints(room.nodes.partOf(given, 1), other, level + 1);
        }

        private boolean isBest(Candidate c) {
            for (int i = 0; i < seen; i++) {
                Candidate d = candidates[i];
                if (d == c || !d.takes) continue;
                if (room.ask(ORDER, c.one, d.one) != YES || room.ask(ORDER, c.other, d.other) != YES) return false;
                boolean isBack = room.ask(ORDER, d.one, c.one) == YES && room.ask(ORDER, d.other, c.other) == YES;
                if (isBack && c.place >= d.place) return false;
            }
            return true;
        }
    }

    private static final class Expression {
        int number;
        int kind;
        Expression a;
        Expression b;
        Expression c;
        int name;
        int told;
        int result = NONE;
        int own = NONE;
        int seen;
        int taking;
        int chosen;
        int fault;
        boolean hasFault;
        /** That of the result; NONE as long as nobody has asked for it. */
        int depth;

        /** As it is before it is judged: it has in it what those have that are named in it. */
        void clear() {
            result = NONE;
            own = NONE;
            seen = 0;
            taking = 0;
            chosen = NONE;
            fault = 0;
            depth = NONE;
            hasFault = a != null && a.hasFault || b != null && b.hasFault || c != null && c.hasFault;
        }

        void take(Chooser from) {
            seen = from.seen;
            taking = from.taking;
            if (fault != 0 || from.best == null) return;
            result = from.best.result;
            own = from.best.own;
            chosen = from.best.method;
        }
    }

    private static final class Flaws {
        private final int[] sorts = new int[MOST_SORTS * 3 + MOST_METHODS];
        private final int[] codes = new int[MOST_SORTS * 3 + MOST_METHODS];
        private final int[] places = new int[MOST_SORTS * 3 + MOST_METHODS];
        int count = 0;

        void note(int sort, int code, int place) {
            if (count >= sorts.length) return;
            sorts[count] = sort;
            codes[count] = code;
            places[count] = place;
            count++;
        }

        int tell(int flaw, int what) {
            if (flaw < 0 || flaw >= count) return NONE;
            if (what == 0) return sorts[flaw];
            return what == 1 ? codes[flaw] : places[flaw];
        }
    }
}
