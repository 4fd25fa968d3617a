import java.util.List;
import java.util.function.Supplier;

/** Runs of calls by a fixed row of numbers, on a Hornbook and on a PlainHornbook: each answer must be the same. */
public final class PlainTest {
    private static long state;
    private static int wrong = 0;
    private static int run = 0;
    private static Hornbook x;
    private static PlainHornbook y;
    /** Whether this run is to come to deep TYPES. */
    private static boolean isDeep;
    /** What came to be, so that the runs can be seen to reach what they are for. */
    private static final long[] reached = new long[16];

    private static int next(int bound) {
        state = state * 6364136223846793005L + 1442695040888963407L;
        return (int) ((state >>> 33) % bound);
    }

    private static Object answer(Supplier<Object> call) {
        try {
            return call.get();
        } catch (RuntimeException e) {
            Class<?> kind = e.getClass();
            boolean isAllowed = kind == IndexOutOfBoundsException.class || kind == IllegalArgumentException.class
                    || kind == IllegalStateException.class;
            // a list of the library throws one of these, too: it must have been thrown by the class itself
            boolean isOwn = e.getStackTrace()[0].getClassName().matches("(Plain)?Hornbook");
            return isAllowed && isOwn ? kind.getName() : "the machine's " + e;
        }
    }

    private static void same(String call, Supplier<Object> got, Supplier<Object> due) {
        Object a = answer(got);
        Object b = answer(due);
        if (a.equals(b)) return;
        wrong++;
        if (wrong < 40) System.out.println("run " + run + ": " + call + " answered " + a + ", due is " + b);
    }

    /** Mostly a number that there is, now and then one just outside, or far. */
    private static int pick(int size) {
        int luck = next(60);
        if (luck == 0) return -1;
        if (luck == 1) return size;
        if (luck == 2) return new int[] {-2, -9, Integer.MIN_VALUE, Integer.MAX_VALUE, 1000}[next(5)];
        return size == 0 ? 0 : next(size);
    }

    private static int pickType() {
        if (isDeep && next(3) != 0) {
            // the deepest one of some, but for those that nothing more can be built of
            int best = next(y.types.size());
            for (int i = 0; i < 3; i++) {
                int t = next(y.types.size());
                int depth = y.types.get(t).depth();
                if (depth > y.types.get(best).depth() && (depth < 4 || next(2) == 0)) best = t;
            }
            return best;
        }
        return next(3) == 0 ? pick(y.types.size()) : pick(Math.min(y.types.size(), 12));
    }

    private static int pickClosed() {
        for (int i = 0; i < 20; i++) {
            int t = next(2) == 0 ? pickType() : pick(y.types.size());
            if (t >= 0 && t < y.types.size() && y.types.get(t).isClosed() && (i > 6 || t > 1 || next(8) == 0)) return t;
        }
        return next(20) == 0 ? 2 : next(2);
    }

    private static int pickOrNone(int size) {
        return next(3) == 0 ? -1 : pick(size);
    }

    private static void tellSort() {
        int many = next(40) == 0 ? next(7) - 2 : next(3);
        int first = next(40) == 0 ? next(7) - 2 : isDeep && next(3) != 0 ? 1 : next(3);
        int second = next(40) == 0 ? next(7) - 2 : isDeep && next(3) != 0 ? 1 : next(3);
        same("sort(" + many + ", " + first + ", " + second + ")", () -> x.sort(many, first, second),
                () -> y.sort(many, first, second));
    }

    private static void tellParameter() {
        int which = next(20) == 0 ? next(5) - 2 : next(2);
        same("parameter(" + which + ")", () -> x.parameter(which), () -> y.parameter(which));
    }

    private static void tellType() {
        int sort = pick(y.hows.size());
        int many = sort >= 0 && sort < y.hows.size() ? y.hows.get(sort).length : next(3);
        if (next(30) == 0) many = next(3);
        int one = many > 0 ? pickType() : next(30) == 0 ? pickType() : -1;
        int other = many > 1 ? pickType() : next(30) == 0 ? pickType() : -1;
        same("type(" + sort + ", " + one + ", " + other + ")", () -> x.type(sort, one, other), () -> y.type(sort, one, other));
    }

    private static void tellParent() {
        int sort = pick(y.hows.size());
        int type = pick(y.types.size());
        for (int i = 0; i < 12; i++) {
            if (sort < 0 || sort >= y.hows.size() || type < 0 || type >= y.types.size()) break;
            PlainHornbook.T t = y.types.get(type);
            if (t.code() >= 0 && t.greatest() < sort) break;
            sort = pick(y.hows.size());
            type = pick(y.types.size());
        }
        int child = sort;
        int told = type;
        same("parent(" + child + ", " + told + ")", () -> x.parent(child, told), () -> y.parent(child, told));
    }

    private static int pickFitting(int sort, boolean isGeneral) {
        int t = pickType();
        for (int i = 0; i < 12; i++) {
            if (sort < 0 || sort >= y.hows.size() || t < 0 || t >= y.types.size()) break;
            PlainHornbook.T at = y.types.get(t);
            int many = y.hows.get(sort).length;
            boolean isFitting = (many > 0 || !at.has(-4)) && (many > 1 || !at.has(-5)) && (isGeneral || !at.has(-3));
            if (isFitting && (!isGeneral || i > 3 || at.has(-3))) break;
            t = pickType();
        }
        return t;
    }

    private static void tellMethod(int names) {
        int sort = next(2) == 0 ? pick(y.hows.size()) : pick(Math.min(3, y.hows.size()));
        int name = next(40) == 0 ? next(14) - 2 : next(names);
        boolean isGeneral = next(2) == 0;
        int one = next(4) == 0 ? -1 : pickFitting(sort, isGeneral);
        int other = one == -1 && next(20) != 0 || next(2) == 0 ? -1 : pickFitting(sort, isGeneral);
        int result = pickFitting(sort, isGeneral);
        same("method(" + sort + ", " + name + ", " + one + ", " + other + ", " + result + ", " + isGeneral + ")",
                () -> x.method(sort, name, one, other, result, isGeneral),
                () -> y.method(sort, name, one, other, result, isGeneral));
    }

    private static void tellExpression(int names) {
        int kind = next(8);
        if (kind < 2 || y.said.size() < 3) {
            int type = next(15) == 0 ? pickType() : pickClosed();
            same("value(" + type + ")", () -> x.value(type), () -> y.value(type));
        } else if (kind < 4) {
            int a = pick(y.said.size());
            int b = pick(y.said.size());
            same("either(" + a + ", " + b + ")", () -> x.either(a, b), () -> y.either(a, b));
        } else if (kind < 5) {
            int e = pick(y.said.size());
            int type = next(15) == 0 ? pickType() : pickClosed();
            same("as(" + e + ", " + type + ")", () -> x.as(e, type), () -> y.as(e, type));
        } else {
            int luckyE = pick(y.said.size());
            int luckyName = next(40) == 0 ? next(14) - 2 : next(names);
            int luckyOne = pickOrNone(y.said.size());
            int luckyOther = luckyOne == -1 && next(20) != 0 || next(2) == 0 ? -1 : pick(y.said.size());
            if (next(10) != 0 && !y.methods.isEmpty()) {
                // a METHOD that is SEEN, with as many as it is given, so that more than half of the CALLS go well
                List<PlainHornbook.Judged> judged = y.judge(-1);
                PlainHornbook.Told method = y.methods.get(next(y.methods.size()));
                for (int i = 0; i < 60; i++) {
                    luckyE = next(judged.size());
                    PlainHornbook.Judged at = judged.get(luckyE);
                    if (!at.isFaulty && PlainHornbook.find(y.road(at.type), method.sort()) != null) break;
                    method = y.methods.get(next(y.methods.size()));
                }
                luckyName = method.name();
                luckyOne = method.given().size() > 0 ? pickSound(judged) : -1;
                luckyOther = method.given().size() > 1 ? pickSound(judged) : -1;
            }
            int e = luckyE;
            int name = luckyName;
            int one = luckyOne;
            int other = luckyOther;
            same("call(" + e + ", " + name + ", " + one + ", " + other + ")", () -> x.call(e, name, one, other),
                    () -> y.call(e, name, one, other));
        }
    }

    private static int pickSound(List<PlainHornbook.Judged> judged) {
        int e = next(judged.size());
        for (int i = 0; i < 8 && judged.get(e).isFaulty; i++) e = next(judged.size());
        return e;
    }

    private static void askTypes() {
        int a = pickType();
        int b = pickType();
        int k = next(6) == 0 ? pick(12) : next(4);
        int place = next(10) == 0 ? pick(12) : next(4);
        switch (next(6)) {
            case 0:
                same("depth(" + a + ")", () -> x.depth(a), () -> y.depth(a));
                break;
            case 1:
                same("isSame(" + a + ", " + b + ")", () -> x.isSame(a, b), () -> y.isSame(a, b));
                break;
            case 2:
                same("isUnder(" + a + ", " + b + ")", () -> x.isUnder(a, b), () -> y.isUnder(a, b));
                break;
            case 3:
                same("road(" + a + ", " + place + ", " + k + ")", () -> x.road(a, place, k), () -> y.road(a, place, k));
                break;
            default:
                same("join(" + a + ", " + b + ", " + k + ")", () -> x.join(a, b, k), () -> y.join(a, b, k));
        }
    }

    private static void askExpressions() {
        int e = pick(y.said.size());
        int k = next(6) == 0 ? pick(12) : next(4);
        switch (next(6)) {
            case 0:
                same("line(" + e + ", " + k + ")", () -> x.line(e, k), () -> y.line(e, k));
                break;
            case 1:
                same("seen(" + e + ")", () -> x.seen(e), () -> y.seen(e));
                break;
            case 2:
                same("taking(" + e + ")", () -> x.taking(e), () -> y.taking(e));
                break;
            case 3:
                same("chosen(" + e + ")", () -> x.chosen(e), () -> y.chosen(e));
                break;
            case 4:
                same("own(" + e + ", " + k + ")", () -> x.own(e, k), () -> y.own(e, k));
                break;
            default:
                same("isFaulty(" + e + ")", () -> x.isFaulty(e), () -> y.isFaulty(e));
        }
    }

    private static void askNoted() {
        int number = pick(next(2) == 0 ? 3 : 8);
        int what = next(10) == 0 ? next(6) - 2 : next(2);
        int more = next(10) == 0 ? next(6) - 2 : next(3);
        switch (next(4)) {
            case 0:
                same("faults()", () -> x.faults(), () -> y.faults());
                break;
            case 1:
                same("ofFault(" + number + ", " + what + ")", () -> x.ofFault(number, what), () -> y.ofFault(number, what));
                break;
            case 2:
                same("flaws()", () -> x.flaws(), () -> y.flaws());
                break;
            default:
                same("ofFlaw(" + number + ", " + more + ")", () -> x.ofFlaw(number, more), () -> y.ofFlaw(number, more));
        }
    }

    private static void askWould(int names) {
        int type = pickClosed();
        int name = next(40) == 0 ? next(14) - 2 : next(names);
        int one = next(3) == 0 ? -1 : pickClosed();
        int other = one == -1 && next(20) != 0 || next(2) == 0 ? -1 : pickClosed();
        int method = pick(y.methods.size());
        int sort = pick(y.hows.size());
        int parameter = next(20) == 0 ? pick(3) : next(2);
        int how = next(20) == 0 ? next(6) - 2 : next(3);
        switch (next(6)) {
            case 0:
                same("faultsWithout(" + method + ")", () -> x.faultsWithout(method), () -> y.faultsWithout(method));
                break;
            case 1:
                same("faultsWith(" + sort + ", " + parameter + ", " + how + ")", () -> x.faultsWith(sort, parameter, how),
                        () -> y.faultsWith(sort, parameter, how));
                break;
            case 2:
                same("flawsWith(" + sort + ", " + parameter + ", " + how + ")", () -> x.flawsWith(sort, parameter, how),
                        () -> y.flawsWith(sort, parameter, how));
                break;
            case 3:
                same("meanDepth()", () -> x.meanDepth(), () -> y.meanDepth());
                break;
            default:
                same("wouldChoose(" + type + ", " + name + ", " + one + ", " + other + ")",
                        () -> x.wouldChoose(type, name, one, other), () -> y.wouldChoose(type, name, one, other));
        }
    }

    /** SORTS whose PARENTS are as deep as they may be, so that a JOIN comes to be deeper. */
    private static void tellDeepOnes() {
        same("sort(0, 0, 0)", () -> x.sort(0, 0, 0), () -> y.sort(0, 0, 0));
        same("sort(1, 1, 0)", () -> x.sort(1, 1, 0), () -> y.sort(1, 1, 0));
        same("sort(2, 1, 1)", () -> x.sort(2, 1, 1), () -> y.sort(2, 1, 1));
        same("sort(0, 0, 0)", () -> x.sort(0, 0, 0), () -> y.sort(0, 0, 0));
        same("sort(0, 0, 0)", () -> x.sort(0, 0, 0), () -> y.sort(0, 0, 0));
        same("type(0, -1, -1)", () -> x.type(0, -1, -1), () -> y.type(0, -1, -1));
        for (int i = 3; i < 7; i++) {
            int t = i;
            same("type(1, " + t + ", -1)", () -> x.type(1, t, -1), () -> y.type(1, t, -1));
        }
        same("type(3, -1, -1)", () -> x.type(3, -1, -1), () -> y.type(3, -1, -1));
        same("type(4, -1, -1)", () -> x.type(4, -1, -1), () -> y.type(4, -1, -1));
        for (int i = 3; i < 5; i++) {
            int sort = i;
            int type = 5 + next(3);
            same("parent(" + sort + ", " + type + ")", () -> x.parent(sort, type), () -> y.parent(sort, type));
        }
        for (int i = 8; i < 10; i++) {
            int t = i;
            same("type(1, " + t + ", -1)", () -> x.type(1, t, -1), () -> y.type(1, t, -1));
            same("type(2, " + t + ", " + (17 - t) + ")", () -> x.type(2, t, 17 - t), () -> y.type(2, t, 17 - t));
        }
        for (int i = 10; i < 14; i++) {
            int t = i;
            same("value(" + t + ")", () -> x.value(t), () -> y.value(t));
        }
        same("either(0, 2)", () -> x.either(0, 2), () -> y.either(0, 2));
        same("either(1, 3)", () -> x.either(1, 3), () -> y.either(1, 3));
    }

    /** Pairs of SORTS, each of them one of the pair below it and of its other one: a JOIN of two goes down all of it. */
    private static void tellLadder() {
        same("sort(0, 0, 0)", () -> x.sort(0, 0, 0), () -> y.sort(0, 0, 0));
        int first = next(3);
        int second = next(4) == 0 ? next(3) : 1;
        same("sort(2, " + first + ", " + second + ")", () -> x.sort(2, first, second), () -> y.sort(2, first, second));
        same("type(0, -1, -1)", () -> x.type(0, -1, -1), () -> y.type(0, -1, -1));
        int left = 3;
        int right = 3;
        for (int sort = 2; sort < 8; sort += 2) {
            int a = sort;
            int parentA = left;
            int parentB = right;
            same("sort(0, 0, 0)", () -> x.sort(0, 0, 0), () -> y.sort(0, 0, 0));
            same("sort(0, 0, 0)", () -> x.sort(0, 0, 0), () -> y.sort(0, 0, 0));
            same("parent(" + a + ", ..)", () -> x.parent(a, parentA), () -> y.parent(a, parentA));
            same("parent(" + (a + 1) + ", ..)", () -> x.parent(a + 1, parentB), () -> y.parent(a + 1, parentB));
            int size = y.types.size();
            same("type(" + a + ", -1, -1)", () -> x.type(a, -1, -1), () -> y.type(a, -1, -1));
            same("type(" + (a + 1) + ", -1, -1)", () -> x.type(a + 1, -1, -1), () -> y.type(a + 1, -1, -1));
            same("type(1, ..)", () -> x.type(1, size, size + 1), () -> y.type(1, size, size + 1));
            same("type(1, ..)", () -> x.type(1, size + 1, size), () -> y.type(1, size + 1, size));
            left = size + 2;
            right = size + 3;
            same("value(..)", () -> x.value(size), () -> y.value(size));
            same("value(..)", () -> x.value(size + 1), () -> y.value(size + 1));
            same("either(..)", () -> x.either(y.said.size() - 1, y.said.size() - 2),
                    () -> y.either(y.said.size() - 1, y.said.size() - 2));
        }
    }

    private static void one(int names, int told, int asked) {
        x = new Hornbook();
        y = new PlainHornbook();
        isDeep = next(3) == 0;
        if (isDeep && next(2) == 0) tellDeepOnes();
        else if (isDeep && next(3) == 0) tellLadder();
        int sorts = 2 + next(10);
        for (int i = 0; i < sorts; i++) tellSort();
        tellParameter();
        tellParameter();
        for (int i = 0; i < told; i++) {
            int luck = next(40);
            if (luck < 14) tellType();
            else if (luck < 20) tellParent();
            else if (luck < 29) tellMethod(names);
            else if (luck < 38) tellExpression(names);
            else if (luck == 38) tellSort();
            else tellParameter();
            if (next(12) == 0) askTypes();
            if (next(12) == 0) askExpressions();
            if (next(30) == 0) same("digest()", () -> x.digest(), () -> y.digest());
        }
        for (int i = 0; i < 4; i++) {
            int what = i;
            same("many(" + what + ")", () -> x.many(what), () -> y.many(what));
        }
        for (int i = 0; i < asked; i++) {
            switch (next(4)) {
                case 0: askTypes(); break;
                case 1: askExpressions(); break;
                case 2: askNoted(); break;
                default: askWould(names);
            }
        }
        same("digest()", () -> x.digest(), () -> y.digest());
        for (PlainHornbook.Judged j : y.judge(-1)) {
            reached[j.fault]++;
            if (j.chosen >= 0) reached[5]++;
            if (j.taking > 1 && j.chosen >= 0) reached[6]++;
            if (j.own != null) reached[7]++;
            if (j.own != null && j.own.code() >= 0) reached[8]++;
            if (j.type.depth() > 0) reached[9]++;
            if (j.type.depth() > 3) reached[10]++;
            if (j.type.depth() > 4) reached[11]++;
        }
        for (int[] f : y.flawsNoted()) reached[11 + f[1]]++;
    }

    public static void main(String[] args) {
        int runs = args.length > 0 ? Integer.parseInt(args[0]) : 1200;
        state = args.length > 1 ? Long.parseLong(args[1]) : 7;
        for (run = 0; run < runs; run++) one(1 + next(4), 60 + next(140), 120);
        String[] names = {"no fault", "fault 1", "fault 2", "fault 3", "fault 4", "chosen", "chosen of several", "own",
            "own of a sort", "depth 1 up", "depth 4 up", "depth 5 up", "flaw 1", "flaw 2", "flaw 3"};
        for (int i = 0; i < names.length; i++) {
            System.out.print(names[i] + " " + reached[i] + (i + 1 < names.length ? ", " : "\n"));
            if (reached[i] == 0 && runs >= 1200) wrong++;
        }
        System.out.println(wrong == 0 ? "all answers are as due" : wrong + " answers are not as due");
        if (wrong != 0) System.exit(1);
    }
}
