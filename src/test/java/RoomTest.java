import java.lang.reflect.Field;
import java.util.ArrayList;
import java.util.HashMap;
import java.util.List;
import java.util.Map;
import java.util.function.IntBinaryOperator;

/**
 * Runs that ask for very much: many TYPES, long ways, JOINS far too large to be written down. The SORTS and TYPES of
 * FORESTS were found by a search for such; what is due comes from PlainHornbook, with a memory for what is UNDER.
 */
public final class RoomTest {
    private static final Due due = new Due();
    private static long state;
    private static int mostKept = 0;
    private static int mostHeld = 0;
    private static final int[] PLACES = {0, 1, 2, 3, 4, 5, 6, 7, 8, 9, 13, 17, 29, 57, 100, 1000, 9999, 100000, 1000000,
        123456789, 2000000000, Integer.MAX_VALUE - 1, Integer.MAX_VALUE, -1};

    /** s a SORT, p a PARAMETER, t a TYPE, u the PARENT of a SORT; m a METHOD that is GENERAL, v, e, a and c EXPRESSIONS. */
    private static final String[] FORESTS = {
        "s2,2,2 s2,1,0 s2,0,2 s2,0,1 s2,1,1 s1,0,1 s2,0,1 s2,1,2 s1,0,1 s0,0,0 s0,0,0 s0,0,1 p0 p1 t0,3,4"
            + " t10,-1,-1 t11,-1,-1 t8,6,-1 t6,3,4 t8,7,-1 t10,-1,-1 t5,9,-1 t5,3,-1 t11,-1,-1 t5,13,-1 t9,-1,-1"
            + " t5,8,-1 t5,10,-1 t2,3,4 t3,3,3 t3,3,1 t7,3,1 t8,1,-1 t7,6,0 t2,12,15 t11,-1,-1 t2,21,20 t11,-1,-1"
            + " t8,24,-1 t2,1,3 t9,-1,-1 t5,24,-1 t10,-1,-1 t2,7,10 t2,19,30 t5,21,-1 t5,30,-1 t2,17,32 t6,34,5"
            + " t8,16,-1 t3,3,22 t9,-1,-1 t4,35,3 t2,0,1 t2,36,37 t2,18,10 t10,-1,-1 t7,1,30 t9,-1,-1 t2,38,20"
            + " t0,5,5 t8,0,-1 t0,8,34 t11,-1,-1 t9,-1,-1 t9,-1,-1 t5,22,-1 t1,6,1 t7,38,0 u2,51 u3,35 u5,27 u6,45"
            + " u7,25 u8,41 u9,23 u10,40 u11,38",
        "s2,1,1 s2,2,0 s2,0,1 s1,2,2 s2,0,2 s2,0,0 s2,1,2 s0,1,1 s2,0,1 s2,0,0 s2,0,1 s0,2,1 p0 p1 t10,1,1"
            + " t1,3,4 t10,5,0 t4,4,3 t2,4,4 t2,4,3 t5,3,4 t9,3,0 t5,1,4 t5,1,3 t5,14,11 t0,3,4 t11,-1,-1 t7,-1,-1"
            + " t10,0,18 t2,3,4 t6,4,0 t5,3,6 t11,-1,-1 t4,8,9 t11,-1,-1 t5,3,4 t1,17,17 t10,19,17 t10,11,3 t8,3,16"
            + " t6,17,4 t0,21,4 t4,0,0 t3,1,-1 t3,16,-1 t0,20,10 t9,34,21 t3,4,-1 t0,4,29 t0,6,4 t4,5,11 t0,16,16"
            + " t0,0,32 t7,-1,-1 t1,35,20 t11,-1,-1 t4,37,11 t3,34,-1 t7,-1,-1 t4,22,15 t9,11,38 t8,28,7 t0,0,0"
            + " t7,-1,-1 t9,3,45 t6,3,47 t10,0,40 t6,0,4 t8,3,22 u1,42 u1,42 u2,40 u4,36 u5,24 u6,50 u8,10 u9,11"
            + " u9,50 u10,47 u11,7",
        "s2,0,0 s1,2,2 s1,2,0 s1,2,2 s0,1,2 s1,0,0 s1,2,0 s1,1,0 s0,1,0 s1,2,1 s0,2,2 s0,1,2 p0 p1 t2,3,-1"
            + " t6,3,-1 t7,6,-1 t11,-1,-1 t2,7,-1 t8,-1,-1 t9,10,-1 t4,-1,-1 t6,12,-1 t3,3,-1 t2,5,-1 t9,8,-1"
            + " t11,-1,-1 t3,1,-1 t10,-1,-1 t6,6,-1 t10,-1,-1 t7,11,-1 t7,13,-1 t5,3,-1 t7,3,-1 t7,16,-1 t3,18,-1"
            + " t4,-1,-1 t9,1,-1 t9,19,-1 t2,26,-1 t11,-1,-1 t2,14,-1 t5,3,-1 t4,-1,-1 t1,12,-1 t7,1,-1 t5,24,-1"
            + " t7,16,-1 t10,-1,-1 t1,3,-1 t9,8,-1 t11,-1,-1 t4,-1,-1 t5,7,-1 t2,27,-1 t10,-1,-1 t2,22,-1 t7,14,-1"
            + " t2,24,-1 t2,23,-1 t1,31,-1 t1,3,-1 t1,41,-1 t7,30,-1 t5,1,-1 t11,-1,-1 t2,38,-1 t2,55,-1 u2,54 u3,15"
            + " u4,46 u5,33 u6,58 u6,38 u7,50 u8,51 u9,9 u10,48 u11,59 u11,51",
        "s1,1,1 s2,0,2 s1,0,0 s1,2,0 s1,2,2 s1,1,2 s1,0,0 s1,0,2 s1,2,2 s2,2,1 s2,2,0 s0,2,1 p0 p1 t2,4,-1"
            + " t1,3,1 t8,4,-1 t10,1,1 t8,7,-1 t9,0,0 t2,3,-1 t5,3,-1 t1,5,0 t3,3,-1 t7,3,-1 t4,11,-1 t4,15,-1"
            + " t11,-1,-1 t0,17,-1 t4,12,-1 t6,3,-1 t10,18,14 t4,14,-1 t9,3,4 t1,24,0 t0,3,-1 t10,24,8 t5,9,-1"
            + " t2,11,-1 t0,6,-1 t0,20,-1 t4,9,-1 t8,24,-1 t0,26,-1 t4,33,-1 t11,-1,-1 t4,21,-1 t0,11,-1 t10,1,18"
            + " t7,1,-1 t4,20,-1 t5,3,-1 t9,16,29 t9,34,10 t11,-1,-1 t4,4,-1 t8,8,-1 t9,3,3 t0,23,-1 t4,7,-1"
            + " t4,47,-1 t7,3,-1 t8,39,-1 t10,3,39 t5,44,-1 t4,53,-1 t0,56,-1 t4,20,-1 t3,3,-1 u1,34 u1,34 u2,30"
            + " u3,29 u4,38 u5,49 u6,31 u7,37 u8,19 u9,32 u10,35 u11,51",
        "s1,2,2 s1,1,2 s1,2,1 s2,2,2 s1,0,0 s1,1,0 s1,0,2 s1,2,1 s1,0,2 s0,1,0 s1,2,0 s0,0,2 p0 p1 t7,3,-1"
            + " t1,5,-1 t1,3,-1 t1,5,-1 t11,-1,-1 t5,4,-1 t8,9,-1 t6,3,-1 t9,-1,-1 t11,-1,-1 t0,4,-1 t4,3,-1 t4,6,-1"
            + " t5,3,-1 t9,-1,-1 t6,12,-1 t10,11,-1 t7,0,-1 t7,5,-1 t8,1,-1 t7,3,-1 t6,4,-1 t6,5,-1 t6,7,-1 t7,24,-1"
            + " t8,13,-1 t1,16,-1 t3,5,9 t6,26,-1 t10,30,-1 t5,21,-1 t6,21,-1 t3,3,0 t6,34,-1 t6,29,-1 t0,36,-1"
            + " t6,0,-1 t6,23,-1 t2,36,-1 t4,1,-1 t2,20,-1 t9,-1,-1 t9,-1,-1 t1,18,-1 t8,1,-1 t4,3,-1 t9,-1,-1"
            + " t4,3,-1 t1,37,-1 t9,-1,-1 t11,-1,-1 t2,6,-1 t1,27,-1 t2,7,-1 t11,-1,-1 u2,7 u3,58 u4,53 u5,31 u6,48"
            + " u7,45 u8,42 u9,39 u10,57 u11,38"
    };

    /** The SORTS and TYPES of HornbookLargeEitherTest among the shared tests. */
    private static final String TOWER =
        "s2,1,1 s2,2,1 s2,0,1 s2,2,2 s2,1,0 s2,2,0 s2,1,0 s0,2,0 s2,2,1 s2,2,1 s2,2,1 s0,2,0 p0 p1 "
            + "t10,0,1 t1,3,4 t10,5,0 t4,3,4 t1,4,4 t3,4,3 t5,3,4 t8,4,0 t6,1,1 t5,4,3 t5,14,11 t0,3,4 "
            + "t11,-1,-1 t7,-1,-1 t10,0,18 t2,3,4 t6,18,4 t5,8,3 t1,4,4 t4,8,20 t4,0,4 t1,14,0 t4,20,5 "
            + "t10,19,17 t0,2,14 t3,28,28 t4,1,25 t2,1,25 t9,3,13 t0,26,24 t4,20,34 t0,20,10 t9,23,21 t3,3,12 "
            + "t1,2,2 t0,6,4 t10,23,13 t0,16,16 t0,11,38 t8,0,10 t2,33,20 t9,0,26 t4,37,11 t4,44,24 t10,26,28 "
            + "t4,22,15 t8,0,36 t1,33,1 t4,32,30 t5,34,33 t1,14,2 t9,0,42 t4,0,34 t3,13,11 t1,10,2 u1,42 u2,40 "
            + "u3,20 u3,42 u4,36 u4,23 u5,24 u5,42 u6,50 u6,35 u7,13 u7,13 u8,34 u8,31 u9,43 u9,24 u10,47 u11,7 "
            + "u11,13";

    /** PlainHornbook, with a memory, so that large questions can be answered. */
    private static final class Remembering extends PlainHornbook {
        private final Map<Long, Boolean> orders = new HashMap<>();
        private final Map<Long, T> joins = new HashMap<>();
        private final Map<T, List<T>> roads = new HashMap<>();
        private List<Judged> all;

        private void forget() {
            orders.clear();
            joins.clear();
            roads.clear();
            all = null;
        }

        @Override
        int parent(int sort, int type) {
            forget();
            return super.parent(sort, type);
        }

        @Override
        int faultsWith(int sort, int parameter, int how) {
            forget();
            int count = super.faultsWith(sort, parameter, how);
            forget();
            return count;
        }

        @Override
        int say(Said what) {
            all = null;
            return super.say(what);
        }

        private static long pair(T a, T b) {
            return (long) a.number << 32 | b.number;
        }

        @Override
        List<T> road(T t) {
            List<T> known = roads.get(t);
            if (known == null) {
                known = super.road(t);
                roads.put(t, known);
            }
            return known;
        }

        @Override
        boolean under(T a, T b) {
            if (a == NOTHING || b == ANY || a == b) return true;
            Boolean known = orders.get(pair(a, b));
            if (known == null) {
                known = super.under(a, b);
                orders.put(pair(a, b), known);
            }
            return known;
        }

        @Override
        T join(T a, T b) {
            T known = joins.get(pair(a, b));
            if (known == null) {
                known = super.join(a, b);
                joins.put(pair(a, b), known);
            }
            return known;
        }

        @Override
        List<Judged> judge(int without) {
            if (without != -1) return super.judge(without);
            if (all == null) all = super.judge(without);
            return all;
        }
    }

    /**
     * With a number only so many small forests, for a room that is too small for the others, or with 0 only the large
     * results; then how many TYPES may be kept.
     */
    public static void main(String[] args) {
        int small = args.length > 0 ? Integer.parseInt(args[0]) : 300;
        for (int i = 0; i < small; i++) {
            Hornbook x = new Hornbook();
            Remembering y = new Remembering();
            tell(x, y, smallForest(i));
            orders("small forest " + i, x, y);
            joins("small forest " + i, x, y);
            choices("small forest " + i, smallForest(i), true, y);
            towers("small forest " + i, smallForest(i));
        }
        for (int i = 0; i < FORESTS.length && args.length == 0; i++) large(i);
        if (small == 0 || args.length == 0) largeResults();
        if (args.length == 0) longLinesAnew();
        if (args.length == 0) largeTower();
        if (args.length == 0) tooLargeTower();
        if (args.length == 0) deepTowers();
        System.out.println("at most " + mostKept + " TYPES are kept, " + mostHeld + " held");
        due.part("what is no more needed is given back");
        if (args.length > 1) due.is("too many are kept", mostKept > Integer.parseInt(args[1]), false);
        due.is("more than two are held for each EXPRESSION", mostHeld > 80, false);
        due.end();
    }

    private static void large(int forest) {
        Hornbook x = new Hornbook();
        Remembering y = new Remembering();
        tell(x, y, FORESTS[forest]);
        orders("forest " + forest, x, y);
        joins("forest " + forest, x, y);
        joinedExpressions(forest);
        choices("forest " + forest, FORESTS[forest], false, y);
        long most = 0;
        int deepest = 0;
        for (PlainHornbook.T a : y.types) {
            for (PlainHornbook.T b : y.types) {
                most = Math.max(most, y.join(a, b).size);
                deepest = Math.max(deepest, y.join(a, b).depth());
            }
        }
        System.out.println("forest " + forest + ": the largest JOIN " + most + ", the deepest one " + deepest);
        if (forest == 1) due.is("there is a JOIN that is too large for an int", most > Integer.MAX_VALUE, true);
        if (forest == 3) due.is("there is a JOIN more than 200 deep", deepest > 200, true);
    }

    private static int next(int bound) {
        state = state * 6364136223846793005L + 1442695040888963407L;
        return (int) ((state >>> 33) % bound);
    }

    /** SORTS that go out and in, and TYPES of them, by a fixed row of numbers. */
    private static String smallForest(int number) {
        state = number;
        StringBuilder forest = new StringBuilder("p0 p1");
        int[] many = new int[7];
        int[] depths = new int[30];
        for (int i = 0; i < 7; i++) {
            many[i] = next(5) == 0 ? next(3) : 2;
            forest.append(" s").append(many[i]).append(',').append((next(5) + 1) / 2).append(',').append((next(5) + 1) / 2);
        }
        for (int i = 5; i < 30; i++) {
            int sort = next(7);
            int one = many[sort] > 0 ? next(i) : -1;
            int other = many[sort] > 1 ? next(i) : -1;
            depths[i] = 1 + Math.max(one < 0 ? -1 : depths[one], other < 0 ? -1 : depths[other]);
            boolean isGood = depths[i] <= 4;
            if (!isGood) depths[i] = 0;
            if (isGood) forest.append(" t").append(sort).append(',').append(one).append(',').append(other);
            else forest.append(" p").append(i % 2);
        }
        for (int i = 0; i < 24; i++) forest.append(" u").append(6 - i / 4).append(',').append(5 + next(25));
        return forest.toString();
    }

    private static void tell(Hornbook x, PlainHornbook y, String forest) {
        for (String word : forest.split(" ")) {
            String[] parts = word.substring(1).split(",");
            int[] n = new int[5];
            for (int i = 0; i < parts.length; i++) n[i] = Integer.parseInt(parts[i]);
            int got = 0;
            int is = 0;
            switch (word.charAt(0)) {
                case 's' -> { got = x.sort(n[0], n[1], n[2]); is = y.sort(n[0], n[1], n[2]); }
                case 'p' -> { got = x.parameter(n[0]); is = y.parameter(n[0]); }
                case 't' -> { got = x.type(n[0], n[1], n[2]); is = y.type(n[0], n[1], n[2]); }
                case 'm' -> { got = x.method(n[0], n[1], n[2], n[3], n[4], true); is = y.method(n[0], n[1], n[2], n[3], n[4], true); }
                case 'v' -> { got = x.value(n[0]); is = y.value(n[0]); }
                case 'e' -> { got = x.either(n[0], n[1]); is = y.either(n[0], n[1]); }
                case 'a' -> { got = x.as(n[0], n[1]); is = y.as(n[0], n[1]); }
                case 'c' -> { got = x.call(n[0], n[1], n[2], n[3]); is = y.call(n[0], n[1], n[2], n[3]); }
                default -> { got = parent(x::parent, n); is = parent(y::parent, n); }
            }
            due.is(word, got, is);
        }
    }

    /** Not each TYPE can be a PARENT. */
    private static int parent(IntBinaryOperator call, int[] n) {
        try {
            return call.applyAsInt(n[0], n[1]);
        } catch (IllegalArgumentException e) {
            return -1;
        } catch (IllegalStateException e) {
            return -2;
        }
    }

    private static void orders(String forest, Hornbook x, Remembering y) {
        due.part("promise 14 in " + forest);
        for (int a = 0; a < y.types.size(); a++) {
            for (int b = 0; b < y.types.size(); b++) {
                due.is("isUnder(" + a + ", " + b + ")", x.isUnder(a, b), y.isUnder(a, b));
            }
        }
    }

    private static void joins(String forest, Hornbook x, Remembering y) {
        due.part("promise 16 in " + forest);
        for (int a = 0; a < y.types.size(); a++) {
            for (int b = 0; b < y.types.size(); b++) {
                for (int k : PLACES) {
                    if ((a * 7 + b + k) % 4 != 0) continue;
                    int is = y.join(a, b, k);
                    due.is("join(" + a + ", " + b + ", " + k + ")", x.join(a, b, k), is);
                }
            }
        }
    }

    /** EITHERS of TYPES that are told, and of EITHERS. */
    private static void joinedExpressions(int forest) {
        due.part("promises 8, 17 and 31 in forest " + forest);
        Hornbook x = new Hornbook();
        Remembering y = new Remembering();
        tell(x, y, FORESTS[forest]);
        List<Integer> closed = closedOf(y);
        for (int i = 0; i < 10; i++) {
            for (int t : new int[] {closed.get(i * 7 % closed.size()), closed.get((i * i + 5 * i + 3) % closed.size())}) {
                due.is("value", x.value(t), y.value(t));
            }
            int e = y.many(3);
            due.is("either", x.either(e - 2, e - 1), y.either(e - 2, e - 1));
            due.is("either", x.either(i % e, e), y.either(i % e, e));
            for (int k : PLACES) {
                due.is("line(" + e + ", " + k + ")", x.line(e, k), y.line(e, k));
                due.is("line(" + (e + 1) + ", " + k + ")", x.line(e + 1, k), y.line(e + 1, k));
            }
            due.is("meanDepth()", x.meanDepth(), y.meanDepth());
        }
    }

    /** EITHERS whose TYPES fill a room by themselves, so that in a small one not all can be kept at once. */
    private static void largeResults() {
        due.part("promises 8, 17 and 31, many large JOINS");
        Hornbook x = new Hornbook();
        Remembering y = new Remembering();
        tell(x, y, FORESTS[1]);
        int[] types = {52, 28, 7, 17, 27, 5, 19};
        for (int t : types) due.is("value", x.value(t), y.value(t));
        for (int i = 0; i < types.length; i++) {
            for (int j = 0; j < types.length; j++) {
                if ((i + j) % 2 == 1) due.is("either", x.either(i, j), y.either(i, j));
            }
        }
        for (int i = 0; i < 4; i++) due.is("either", x.either(7 + i, 20 - 3 * i), y.either(7 + i, 20 - 3 * i));
        lines(x, y, types.length);
        due.is("meanDepth()", x.meanDepth(), y.meanDepth());
        due.is("isUnder(28, 52)", x.isUnder(28, 52), y.isUnder(28, 52));
        lines(x, y, types.length);
        countKept(x);
    }

    /** The last ones first, as they rest on the others. */
    private static void lines(Hornbook x, Remembering y, int from) {
        for (int e = y.many(3) - 1; e >= from; e--) {
            for (int k : PLACES) due.is("line(" + e + ", " + k + ")", x.line(e, k), y.line(e, k));
        }
    }

    /** What was found out about long LINES holds no longer when another PARENT is told, or for a while another way. */
    private static void longLinesAnew() {
        due.part("promises 3, 17 and 29, long LINES");
        Hornbook x = new Hornbook();
        Remembering y = new Remembering();
        int parents = TOWER.indexOf(" u");
        tell(x, y, TOWER.substring(0, parents));
        List<Integer> closed = closedOf(y);
        for (int t : closed.subList(2, 10)) due.is("value", x.value(t), y.value(t));
        for (int i = 0; i < 8; i++) {
            for (int j = 0; j < i; j++) due.is("either", x.either(i, j), y.either(i, j));
        }
        for (String parent : TOWER.substring(parents + 1).split(" ")) {
            tell(x, y, parent);
            lines(x, y, 8);
            if (!parent.equals("u9,24")) continue;
            due.is("faultsWith", x.faultsWith(10, 1, 0), y.faultsWith(10, 1, 0));
            lines(x, y, 8);
        }
    }

    /** EITHERS of EITHERS; some METHODS and AS that rest on them. */
    private static void largeTower() {
        due.part("promises 8 to 10, 17 to 22, 31 and 32, EITHERS of EITHERS");
        Hornbook x = new Hornbook();
        Remembering y = new Remembering();
        tell(x, y, TOWER);
        for (int m = 0; m < 24; m++) {
            int sort = m % 2 == 0 ? 0 : m / 2;
            int given = m % 3 == 0 ? -1 : m % 3 == 1 ? 2 : fitting(y, sort, 14 + m);
            int result = m % 4 == 0 ? 2 : fitting(y, sort, m % 4 == 1 ? 3 : 20 + m);
            due.is("method", x.method(sort, m % 2, given, -1, result, true), y.method(sort, m % 2, given, -1, result, true));
        }
        for (int t : new int[] {30, 28, 7, 5, 19}) due.is("value", x.value(t), y.value(t));
        for (int[] e : new int[][] {{0, 1}, {0, 2}, {5, 6}, {1, 0}, {5, 8}, {7, 3}}) {
            due.is("either", x.either(e[0], e[1]), y.either(e[0], e[1]));
        }
        lines(x, y, 5);
        due.is("meanDepth()", x.meanDepth(), y.meanDepth());
        for (int e = 5; e < 11; e++) {
            due.is("as", x.as(e, 30), y.as(e, 30));
            due.is("call", x.call(e, e % 2, e % 3 == 0 ? -1 : 15 - e, -1), y.call(e, e % 2, e % 3 == 0 ? -1 : 15 - e, -1));
        }
        for (int e = 11; e < y.many(3); e++) {
            due.is("chosen(" + e + ")", x.chosen(e), y.chosen(e));
            for (int k : PLACES) due.is("own(" + e + ", " + k + ")", x.own(e, k), y.own(e, k));
        }
        lines(x, y, 5);
        due.is("meanDepth()", x.meanDepth(), y.meanDepth());
        due.is("digest()", x.digest(), y.digest());
        countKept(x);
    }

    /** An EITHER of EITHERS with 1564496 TYPES in it; what is due was found by a class that had room for all of them. */
    private static void tooLargeTower() {
        due.part("promises 8, 17, 31 and 32, an EITHER that is too large for all of it to be kept");
        Hornbook x = new Hornbook();
        tell(x, new PlainHornbook(), TOWER);
        for (int t : new int[] {30, 28, 7}) x.value(t);
        x.either(0, 1);
        x.either(2, 0);
        x.either(3, 4);
        int[] places = {5, 1000, 100000, 10000000, 2000000000};
        int[] is = {0, 2, 0, 2, -2};
        for (int i = 0; i < is.length; i++) due.is("line(5, " + places[i] + ")", x.line(5, places[i]), is[i]);
        due.is("meanDepth()", x.meanDepth(), (3 + 2 + 2 + 103 + 74 + 108) / 6.0);
        due.is("digest()", x.digest(), -4066313707126859945L);
        // EITHERS of such EITHERS: 1050064 TYPES in one of two with 1049696 and 1048132; 1748905 in one with 1244926
        due.is("meanDepth()", tower(0, 2, 4, 0, 0, 2, 3, 0).meanDepth(), 599 / 12.0);
        due.is("meanDepth()", tower(4, 0, 0, 1, 0, 2, 0, 2).meanDepth(), 607 / 12.0);
    }

    /**
     * EITHERS far too large for all of their TYPES to be looked at: how deep they are is found in a second or two, as
     * it was not, in more than a minute, when all that is in both of an EITHER was looked at for it. What is due is what
     * was found then.
     */
    private static void deepTowers() {
        due.part("promise 31, EITHERS that are too large for all of them to be looked at");
        long begun = System.nanoTime();
        String methods = " m10,0,32,-1,8 m1,2,24,-1,2 m2,2,2,2,51 m9,1,57,53,33 m2,0,50,-1,29 m9,1,14,-1,33 m1,2,2,-1,2"
            + " m3,2,22,23,51 m11,0,30,2,19 m8,0,18,2,52 m9,1,2,-1,2 m8,2,2,55,2 m11,1,39,2,2 m3,2,2,-1,2 m3,1,37,45,29"
            + " m9,1,50,2,29 m1,2,25,2,6 m2,2,38,26,1 m10,1,28,-1,2 m3,2,28,2,35 m1,0,2,2,2 m7,0,2,2,2 m9,0,2,2,33"
            + " m0,1,2,-1,27 m5,0,36,2,2 m9,1,39,2,2 m8,2,54,22,46";
        deep(TOWER.replace("t4,0,34 t3,13,11", "t4,0,26 t3,13,11") + methods, "v28 v30 v28 v19 v0 v18 v28 c6,2,0,4 e3,7 e7,3"
            + " c2,2,0,6 a7,19 e7,1 e0,7 e7,0 e12,6 e6,12 e13,13 c10,0,13,9 e15,18 e1,3 e3,1 e18,9 e18,15", 894);
        methods = " m4,2,26,2,2 m0,2,2,-1,25 m7,1,2,-1,2 m3,2,2,-1,12 m3,2,53,2,58 m0,2,52,-1,2 m10,1,2,-1,31 m1,2,31,-1,55"
            + " m10,0,37,-1,2 m5,1,2,-1,33 m5,1,27,13,2 m6,2,2,2,2 m4,2,2,42,19 m5,0,36,-1,3 m5,1,2,26,2 m3,0,29,-1,2"
            + " m0,1,2,-1,2 m6,0,16,2,8 m4,2,2,-1,58 m4,0,2,2,2 m9,2,37,2,49 m4,0,34,2,58 m0,0,6,-1,44 m6,2,2,-1,2"
            + " m8,0,47,-1,2 m4,0,2,-1,2";
        deep(TOWER + methods, "v28 v30 v13 e1,0 c0,1,2,-1 e0,3 e1,2 e2,0 e0,2 e5,8 e8,5 e4,9 e9,4 c11,1,8,8 e11,11 e12,11"
            + " e1,15 e6,11 e11,6 c13,1,7,12 c19,0,5,-1 e10,2 e14,16 e0,14 e16,10 e10,16 e2,2 e2,2 e25,0 e0,25 e24,8"
            + " c26,2,11,-1 e26,6", 2218);
        due.is("it took longer than a minute", System.nanoTime() - begun > 60_000_000_000L, false);
    }

    private static void deep(String forest, String expressions, int sum) {
        Hornbook x = new Hornbook();
        tell(x, new PlainHornbook(), forest + " " + expressions);
        due.is("meanDepth()", x.meanDepth(), (double) sum / x.many(3));
    }

    /** Four EITHERS of VALUES, two of these, one of both. */
    private static Hornbook tower(int... pairs) {
        Hornbook x = new Hornbook();
        tell(x, new PlainHornbook(), TOWER);
        for (int t : new int[] {30, 28, 7, 5, 19}) x.value(t);
        for (int i = 0; i < 8; i += 2) x.either(pairs[i], pairs[i + 1]);
        for (int i = 0; i < 3; i++) x.either(5 + 2 * i, 6 + 2 * i);
        return x;
    }

    private static List<Integer> closedOf(PlainHornbook y) {
        List<Integer> closed = new ArrayList<>();
        for (int t = 0; t < y.types.size(); t++) if (y.types.get(t).isClosed()) closed.add(t);
        return closed;
    }

    /** Many questions, and the TYPES are still what they are; then EXPRESSIONS, all judged at once. */
    private static void choices(String name, String forest, boolean isSmall, Remembering y) {
        due.part("promises 17, 20, 21 and 27 in " + name);
        Hornbook x = new Hornbook();
        tell(x, new PlainHornbook(), forest);
        List<Integer> closed = closedOf(y);
        for (int m = 0; m < 30; m++) {
            int sort = (m * 5 + 1) % y.hows.size();
            int one = m % 7 == 0 ? 2 : fitting(y, sort, m * 11 + 5);
            int other = m % 3 == 0 ? -1 : m % 5 == 0 ? 2 : fitting(y, sort, m * 17 + 2);
            int result = m % 4 == 0 ? 2 : fitting(y, sort, m * 13 + 1);
            due.is("method", x.method(sort, m % 2, one, other, result, true), y.method(sort, m % 2, one, other, result, true));
        }
        for (int i = 0; i < 300; i++) {
            int t = closed.get((i * 5 + 1) % closed.size());
            int one = closed.get((i * 3 + i / 7) % closed.size());
            int other = i % 3 == 0 ? -1 : closed.get((i * 13 + i / 5) % closed.size());
            due.is("wouldChoose(" + t + ", " + i % 2 + ", " + one + ", " + other + ")", x.wouldChoose(t, i % 2, one, other),
                    y.wouldChoose(t, i % 2, one, other));
        }
        for (int i = 0; i < 40; i++) {
            int a = next(i + 1) * 2 / 3;
            int b = next(i + 1) * 2 / 3;
            int c = i % 3 == 0 ? -1 : next(i + 1) * 2 / 3;
            int t = closed.get(i * 7 % closed.size());
            if (i < 20) due.is("value", x.value(t), y.value(t));
            else if (isSmall && i % 5 == 1) due.is("either", x.either(a, b), y.either(a, b));
            else if (isSmall && i % 5 == 3) due.is("as", x.as(a, t), y.as(a, t));
            else due.is("call", x.call(a, i % 2, b, c), y.call(a, i % 2, b, c));
        }
            List<PlainHornbook.Judged> all = y.judge(-1);
        for (int i = 0; i < 40; i++) {
            PlainHornbook.Judged is = all.get(i);
            due.is("chosen(" + i + ")", x.chosen(i), is.chosen);
            for (int k : PLACES) {
                due.is("line(" + i + ", " + k + ")", x.line(i, k), PlainHornbook.at(is.type, k));
                due.is("own(" + i + ", " + k + ")", x.own(i, k), PlainHornbook.at(is.own, k));
            }
        }
        if (isSmall) due.is("meanDepth()", x.meanDepth(), y.meanDepth());
        due.is("digest()", x.digest(), y.digest());
        countKept(x);
    }

    /** EITHERS of EITHERS, as many as there can be. */
    private static void towers(String name, String forest) {
        due.part("promises 8, 17 and 31 in " + name);
        Hornbook x = new Hornbook();
        Remembering y = new Remembering();
        tell(x, y, forest);
        List<Integer> closed = closedOf(y);
        for (int e = 0; e < 40; e++) {
            int t = closed.get(next(closed.size()));
            int a = Math.max(0, e - 1 - next(8));
            int b = next(e + 1) / 2;
            if (e % 4 == 0) due.is("value", x.value(t), y.value(t));
            else due.is("either", x.either(a, b), y.either(a, b));
            if (e % 4 == 3) due.is("meanDepth()", x.meanDepth(), y.meanDepth());
        }
        lines(x, y, 0);
        countKept(x);
    }

    /** For how many TYPES there is room, and how many are held. */
    private static void countKept(Hornbook x) {
        try {
            Object room = read(x, "room");
            mostKept = Math.max(mostKept, ((long[]) read(read(room, "nodes"), "second")).length);
            mostHeld = Math.max(mostHeld, (int) read(room, "holding"));
        } catch (ReflectiveOperationException e) {
            throw new IllegalStateException(e);
        }
    }

    private static Object read(Object from, String name) throws ReflectiveOperationException {
        Field field = from.getClass().getDeclaredField(name);
        field.setAccessible(true);
        return field.get(from);
    }

    private static int fitting(Remembering y, int sort, int from) {
        for (int i = 0; i < y.types.size(); i++) {
            PlainHornbook.T t = y.types.get((from + i) % y.types.size());
            int many = y.hows.get(sort).length;
            if ((many > 0 || !t.has(-4)) && (many > 1 || !t.has(-5))) return (from + i) % y.types.size();
        }
        return 0;
    }
}
