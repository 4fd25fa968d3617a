import java.math.BigInteger;
import java.util.function.IntConsumer;

/**
 * The edges that the document names, each in a test of its own: the least and the greatest that is allowed and the next
 * on either side, none, one, all that there can be, what is full, what wraps around, and what is refused, and why first.
 */
public final class EdgesTest {
    private static final Due due = new Due();
    private static final int LEAST = Integer.MIN_VALUE;
    private static final int GREATEST = Integer.MAX_VALUE;

    public static void main(String[] args) {
        calls();
        sortsAll();
        typesAll();
        typesFullMixed();
        depthAll();
        closed();
        parentsOfEachSort();
        parentInner();
        parentsFull();
        cutAtFour();
        cutOfParameters();
        cutNotAtTheTop();
        cutNothingPutIn();
        roadOfAllSorts();
        methodsAll();
        methodsOfOneName();
        methodNames();
        hintsAll();
        hintsNone();
        expressionsAll();
        expressionsOfSmallerNumbers();
        faultsAll();
        faultsNone();
        flawsAll();
        flawsNone();
        indexes();
        indexesOfExpressions();
        firstOfSeveral();
        places();
        linesShort();
        linesLong();
        wouldChooseAll();
        withoutAll();
        withEachParameter();
        meanOfAll();
        meanOfDeepJoins();
        digestWraps();
        digestOfAll();
        due.end();
    }

    /** Each number that is out of range is refused; a call that throws changes nothing (Due looks at it). */
    private static void refused(Hornbook x, String call, Class<?> why, IntConsumer made, int... numbers) {
        for (int n : numbers) due.fails(x, call + " with " + n, why, () -> made.accept(n));
    }

    /** Numbers below and above those from least up to size. */
    private static int[] outside(int least, int size) {
        return new int[] {least - 1, least - 2, -1000000, LEAST, LEAST + 1, size, size + 1, 60, 61, 1 << 20, GREATEST - 1, GREATEST};
    }

    private static void calls() {
        due.part("what it is: 512 calls");
        Hornbook x = new Hornbook();
        x.sort(1, 1, 0);
        x.sort(0, 0, 0);
        int t = x.type(1, -1, -1);
        for (int i = 4; i < 60; i++) x.type(0, t, -1);
        x.value(59);
        for (int i = 1; i < 40; i++) x.either(i - 1, 0);
        // 3, 56 and 40 calls until here
        for (int i = 99; i < 511; i++) due.is("line", x.line(i % 40, i % 3), i % 3 == 0 ? 0 : i % 3 == 1 ? 1 : -9);
        due.is("the last one", x.meanDepth(), 1.0);
    }

    private static void sortsAll() {
        due.part("1 SORTS, promise 2: each number of PARAMETERS, each way; 12 of them, no 13th");
        Hornbook x = new Hornbook();
        due.is("many(0), none", x.many(0), 0);
        for (int i = 0; i < 12; i++) {
            int many = i < 9 ? 2 : i == 9 ? 1 : 0;
            due.is("sort " + i, x.sort(many, i / 3 % 3, i % 3), i);
            due.is("many(0)", x.many(0), i + 1);
        }
        due.fails(x, "the 13th", Due.NOT_NOW, () -> x.sort(0, 0, 0));
        refused(x, "sort, many", Due.NO_USE, n -> x.sort(n, 0, 0), LEAST, -1, 3, GREATEST);
        refused(x, "sort, first of one", Due.NO_USE, n -> x.sort(1, n, 0), LEAST, -1, 3, GREATEST);
        refused(x, "sort, first of two", Due.NO_USE, n -> x.sort(2, n, 0), LEAST, -1, 3, GREATEST);
        refused(x, "sort, second of two", Due.NO_USE, n -> x.sort(2, 0, n), LEAST, -1, 3, GREATEST);
        refused(x, "not looked at, but full", Due.NOT_NOW, n -> x.sort(0, n, n), LEAST, -1, 3, GREATEST);
        refused(x, "not looked at, but full", Due.NOT_NOW, n -> x.sort(1, 2, n), LEAST, -1, 3, GREATEST);
        // the ways are what they were told to be: places 0 FIXED, 1 OUT, 2 IN of both PARAMETERS
        int thing = x.type(10, -1, -1);
        for (int s = 0; s < 9; s++) {
            int one = x.type(s, 1, thing);
            int other = x.type(s, thing, 1);
            int both = x.type(s, thing, thing);
            due.is("first OUT", x.isUnder(one, both), s / 3 == 1);
            due.is("first IN", x.isUnder(both, one), s / 3 == 2);
            due.is("second OUT", x.isUnder(other, both), s % 3 == 1);
            due.is("second IN", x.isUnder(both, other), s % 3 == 2);
        }
    }

    private static void typesAll() {
        due.part("1 TYPES, promise 4: 60 of them, the three counted");
        Hornbook x = new Hornbook();
        x.sort(0, 0, 0);
        due.is("many(1), the three", x.many(1), 3);
        due.is("the first that is told", x.type(0, -1, -1), 3);
        for (int i = 4; i < 59; i++) x.type(0, -1, -1);
        due.is("many(1), all but one", x.many(1), 59);
        due.is("the last one", x.type(0, -1, -1), 59);
        due.is("many(1), all", x.many(1), 60);
        due.fails(x, "one more", Due.NOT_NOW, () -> x.type(0, -1, -1));
        due.is("the last is the SAME as the first", x.isSame(3, 59), true);
        due.is("value of the last one", x.value(59), 0);
    }

    private static void typesFullMixed() {
        due.part("promises 4 and 5: full, with PARAMETERS among them");
        Hornbook x = new Hornbook();
        x.sort(1, 0, 0);
        for (int i = 3; i < 60; i++) due.is("TYPE " + i, i % 2 == 0 ? x.parameter(i / 2 % 2) : x.type(0, i - 1, -1), i);
        due.fails(x, "type", Due.NOT_NOW, () -> x.type(0, 0, -1));
        due.fails(x, "parameter(0)", Due.NOT_NOW, () -> x.parameter(0));
        due.fails(x, "parameter(1)", Due.NOT_NOW, () -> x.parameter(1));
        refused(x, "parameter", Due.NO_USE, x::parameter, LEAST, -1, 2, GREATEST);
        due.is("many(1)", x.many(1), 60);
    }

    private static void depthAll() {
        due.part("1 DEPTH, promises 4 and 12: 0 to 4, and no 5");
        for (int place = 0; place < 2; place++) {
            Hornbook x = new Hornbook();
            x.sort(0, 0, 0);
            x.sort(1, 0, 0);
            x.sort(2, 0, 0);
            int t = place == 0 ? 0 : x.parameter(1);
            for (int deep = 1; deep <= 4; deep++) {
                t = deep % 2 == 0 ? x.type(1, t, -1) : place == 0 ? x.type(2, t, 1) : x.type(2, 1, t);
                due.is("depth", x.depth(t), deep);
            }
            int last = t;
            due.fails(x, "5, of one", Due.NO_USE, () -> x.type(1, last, -1));
            due.fails(x, "5, first of two", Due.NO_USE, () -> x.type(2, last, 0));
            due.fails(x, "5, second of two", Due.NO_USE, () -> x.type(2, 0, last));
            due.fails(x, "5, both", Due.NO_USE, () -> x.type(2, last, last));
            due.is("4 again", x.depth(x.type(2, last - 1, last - 1)), 4);
        }
    }

    private static void closed() {
        due.part("1 CLOSED, promises 7, 9 and 27: nothing of these in it, at the top, one or four deep");
        Hornbook x = new Hornbook();
        x.sort(2, 0, 0);
        x.value(0);
        int first = x.parameter(0);
        int second = x.parameter(1);
        for (int open : new int[] {2, first, second}) {
            int t = open;
            for (int deep = 0; deep <= 4; deep++) {
                if (deep > 0) t = deep % 2 == 0 ? x.type(0, t, 0) : x.type(0, 1, t);
                int at = t;
                due.fails(x, "value, " + deep + " deep", Due.NO_USE, () -> x.value(at));
                due.fails(x, "as, " + deep + " deep", Due.NO_USE, () -> x.as(0, at));
                due.fails(x, "wouldChoose of it", Due.NO_USE, () -> x.wouldChoose(at, 0, -1, -1));
                due.fails(x, "wouldChoose, given it", Due.NO_USE, () -> x.wouldChoose(0, 0, at, -1));
                due.fails(x, "wouldChoose, given it second", Due.NO_USE, () -> x.wouldChoose(0, 0, 0, at));
            }
        }
        int t = 0;
        for (int deep = 1; deep <= 4; deep++) t = x.type(0, t, 1);
        due.is("value", x.value(t), 1);
        due.is("as", x.as(0, t), 2);
        due.is("wouldChoose", x.wouldChoose(t, 0, t, t), -1);
    }

    private static void parentsOfEachSort() {
        due.part("1 PARENTS, promise 3: SORTS with smaller numbers, and no others");
        Hornbook x = new Hornbook();
        int[] types = new int[12];
        for (int i = 0; i < 12; i++) {
            x.sort(0, 0, 0);
            types[i] = x.type(i, -1, -1);
        }
        for (int i = 0; i < 12; i++) {
            int at = i;
            due.fails(x, "its own", Due.NO_USE, () -> x.parent(at, types[at]));
            if (i < 11) due.fails(x, "the next one", Due.NO_USE, () -> x.parent(at, types[at + 1]));
            if (i < 11) due.fails(x, "the last one", Due.NO_USE, () -> x.parent(at, types[11]));
            if (i > 0) due.is("the one before", x.parent(i, types[i - 1]), 1);
            if (i > 0) due.is("the SORT 0", x.parent(i, types[0]), 2);
        }
    }

    private static void parentInner() {
        due.part("1 PARENTS, promise 3: what is in one");
        Hornbook x = new Hornbook();
        x.sort(2, 1, 1);
        for (int i = 1; i < 4; i++) x.sort(i - 1, 0, 0);
        x.sort(0, 0, 0);
        int first = x.parameter(0);
        int second = x.parameter(1);
        int own = x.type(0, 2, 0);
        int small = x.type(1, -1, -1);
        int great = x.type(4, -1, -1);
        int[] of = {x.type(0, 0, 1), x.type(0, small, first), x.type(0, second, small), x.type(0, first, second)};
        int inner = x.type(0, 0, x.type(0, of[2], 0));
        int greatInner = x.type(0, x.type(0, great, 0), 0);
        boolean[][] isGood = {{true, false, false, false}, {true, true, false, false}, {true, true, true, true}};
        for (int many = 0; many <= 2; many++) {
            for (int p = 0; p < of.length; p++) {
                int sort = many + 1;
                int parent = of[p];
                if (!isGood[many][p]) due.fails(x, "SORT " + sort + ", PARENT " + p, Due.NO_USE, () -> x.parent(sort, parent));
            }
        }
        due.fails(x, "the OWN TYPE", Due.NO_USE, () -> x.parent(3, own));
        due.fails(x, "two levels in, a PARAMETER", Due.NO_USE, () -> x.parent(2, inner));
        due.fails(x, "two levels in, a greater SORT", Due.NO_USE, () -> x.parent(3, greatInner));
        due.is("two levels in, a PARAMETER that it has", x.parent(3, inner), 1);
        due.is("all that it has", x.parent(3, of[3]), 2);
        due.is("ANY and NOTHING, for none", x.parent(1, of[0]), 1);
        due.is("the first one, for one", x.parent(2, of[1]), 1);
    }

    private static void parentsFull() {
        due.part("promise 3: two PARENTS, and no third");
        Hornbook x = new Hornbook();
        x.sort(0, 0, 0);
        x.sort(0, 0, 0);
        int thing = x.type(0, -1, -1);
        due.is("the first", x.parent(1, thing), 1);
        due.is("the second", x.parent(1, thing), 2);
        due.fails(x, "the third", Due.NOT_NOW, () -> x.parent(1, thing));
        due.fails(x, "the third, once more", Due.NOT_NOW, () -> x.parent(1, thing));
        refused(x, "a third of no TYPE", Due.NO_SUCH, n -> x.parent(1, n), outside(0, x.many(1)));
        refused(x, "a third that can't be one", Due.NO_USE, n -> x.parent(1, n), 0, 1, 2);
    }

    /** SORT 0 leaf, TYPE 3; SORT 1 list OUT; TYPES 4 to 7 lists, 1 to 4 deep; PARAMETER 0 is TYPE 8, 1 TYPE 9. */
    private static Hornbook lists() {
        Hornbook x = new Hornbook();
        x.sort(0, 0, 0);
        x.sort(1, 1, 0);
        x.type(0, -1, -1);
        for (int i = 3; i < 7; i++) x.type(1, i, -1);
        x.parameter(0);
        x.parameter(1);
        return x;
    }

    private static void cutAtFour() {
        due.part("1, what is put in a SORT: 3 deep stays, 4 deep is ANY");
        Hornbook x = lists();
        int listOfOpen = x.type(1, 8, -1);
        x.sort(1, 1, 0);
        x.parent(2, listOfOpen);
        int ofThree = x.type(2, 6, -1);
        due.row("3 deep", Due.road(x, ofThree, 1), 1, 1, 1, 1, 0);
        x.method(2, 0, -1, -1, listOfOpen, false);
        // a CALL of a TYPE with one in it that is 4 deep: its RESULT, and the OWN TYPE
        int listOfOwn = x.type(1, 2, -1);
        x.method(0, 1, 2, -1, listOfOwn, true);
        int leaf = x.value(3);
        due.row("the OWN TYPE, 3 deep", Due.line(x, x.call(leaf, 1, x.value(6), -1)), 1, 1, 1, 1, 0);
        due.row("the OWN TYPE, 4 deep", Due.line(x, x.call(leaf, 1, x.value(7), -1)), 1, -1);
        due.row("a PARAMETER, 3 deep", Due.line(x, x.call(x.value(ofThree), 0, -1, -1)), 1, 1, 1, 1, 0);
    }

    private static void cutOfParameters() {
        due.part("1, what is put in a SORT: the inner ones first, each by itself");
        Hornbook x = lists();
        int listOfOpen = x.type(1, 8, -1);
        int twice = x.type(1, listOfOpen, -1);
        int thrice = x.type(1, twice, -1);
        x.sort(1, 1, 0);
        x.parent(2, twice);
        x.parent(2, thrice);
        due.row("2 deep, in two", Due.road(x, x.type(2, 5, -1), 1), 1, 1, 1, 1, 0);
        due.row("3 deep, in two: the list of it is ANY", Due.road(x, x.type(2, 6, -1), 1), 1, -1);
        x.sort(1, 1, 0);
        x.parent(3, thrice);
        due.row("1 deep, in three", Due.road(x, x.type(3, 4, -1), 1), 1, 1, 1, 1, 0);
        due.row("2 deep, in three", Due.road(x, x.type(3, 5, -1), 1), 1, -1);
        due.row("3 deep, in three: the inner one is ANY first", Due.road(x, x.type(3, 6, -1), 1), 1, 1, -1);
    }

    private static void cutNotAtTheTop() {
        due.part("1, what comes to be at the top stays");
        Hornbook x = lists();
        x.sort(1, 1, 0);
        x.method(2, 0, -1, -1, 8, false);
        x.method(2, 1, 8, -1, 0, false);
        x.method(0, 2, 2, -1, 2, true);
        int deep = x.value(7);
        int box = x.value(x.type(2, 6, -1));
        due.row("a PARAMETER as RESULT", Due.line(x, x.call(box, 0, -1, -1)), 1, 1, 1, 0);
        due.is("a PARAMETER as GIVEN TYPE", x.taking(x.call(box, 1, deep, -1)), 0);
        due.is("and what is UNDER it", x.taking(x.call(box, 1, x.value(6), -1)), 1);
        int own = x.call(x.value(3), 2, deep, -1);
        due.row("the OWN TYPE as RESULT", Due.line(x, own), 1, 1, 1, 1, 0);
        due.row("own()", Due.own(x, own), 1, 1, 1, 1, 0);
    }

    private static void cutNothingPutIn() {
        due.part("1, in what there is nothing to be put in stays");
        Hornbook x = lists();
        x.sort(2, 1, 1);
        int open = x.type(2, 8, 6);
        x.parent(2, 7);
        x.sort(1, 1, 0);
        x.parent(3, 7);
        x.parent(3, open);
        x.method(3, 0, -1, -1, 7, false);
        int box = x.type(3, 6, -1);
        due.row("a PARENT that is 4 deep", Due.road(x, box, 1), 1, 1, 1, 1, 0);
        due.row("a part beside a PARAMETER", Due.road(x, box, 2), 2, 1, 1, 1, 0, 1, 1, 1, 0);
        due.row("a RESULT that is 4 deep", Due.line(x, x.call(x.value(box), 0, -1, -1)), 1, 1, 1, 1, 0);
    }

    private static void roadOfAllSorts() {
        due.part("1 ROAD, promise 15: of none, of one, of all 12 SORTS, each once");
        Hornbook x = new Hornbook();
        for (int i = 0; i < 12; i++) {
            x.sort(0, 0, 0);
            x.type(i, -1, -1);
            if (i > 0) x.parent(i, 2 + i);
            if (i > 1) x.parent(i, 1 + i);
        }
        due.row("of one, place 0", Due.road(x, 3, 0), 0);
        due.row("of one, place 1", Due.road(x, 3, 1));
        for (int place = 0; place < 12; place++) due.row("place " + place, Due.road(x, 14, place), 11 - place);
        due.row("place 12", Due.road(x, 14, 12));
        for (int none = 0; none < 3; none++) due.row("of TYPE " + none, Due.road(x, none, 0));
        for (int a = 0; a < 12; a++) for (int b = 0; b < 12; b++) due.is("isUnder", x.isUnder(3 + a, 3 + b), a >= b);
        due.row("the JOIN of the last with all", Due.join(x, 14, 3), 0);
    }

    private static void methodsAll() {
        due.part("3 METHODS, promise 6: 30 of them, with none, one or two GIVEN");
        Hornbook x = new Hornbook();
        x.sort(0, 0, 0);
        due.is("many(2), none", x.many(2), 0);
        for (int i = 0; i < 30; i++) {
            due.is("METHOD " + i, x.method(0, i % 10, i % 3 == 0 ? -1 : 0, i % 3 == 2 ? 0 : -1, 0, i % 2 == 0), i);
        }
        due.is("many(2), all", x.many(2), 30);
        due.fails(x, "the 31st", Due.NOT_NOW, () -> x.method(0, 0, -1, -1, 0, false));
        due.fails(x, "the 31st, GENERAL", Due.NOT_NOW, () -> x.method(0, 9, 2, 2, 2, true));
    }

    private static void methodsOfOneName() {
        due.part("3 SEEN and TAKES, promises 18 to 20: none, one, all 30");
        Hornbook x = new Hornbook();
        x.sort(0, 0, 0);
        int thing = x.type(0, -1, -1);
        int e = x.value(thing);
        int call = x.call(e, 9, e, -1);
        for (int i = 0; i <= 30; i++) {
            due.is("seen, " + i, x.seen(call), i);
            due.is("taking, " + i, x.taking(call), i);
            due.is("chosen, " + i, x.chosen(call), i == 1 ? 0 : i == 30 ? 29 : -1);
            int fault = i == 0 ? 1 : i == 1 || i == 30 ? 0 : 3;
            due.is("faults, " + i, x.faults(), fault == 0 ? 0 : 1);
            if (fault != 0) due.is("its code, " + i, x.ofFault(0, 1), fault);
            // the last one is BETTER than all others
            if (i < 30) x.method(0, 9, i == 29 ? thing : 0, -1, 0, false);
        }
    }

    private static void methodNames() {
        due.part("3 NAMES, promises 6, 10 and 27: 0 to 9");
        Hornbook x = new Hornbook();
        x.sort(0, 0, 0);
        int thing = x.type(0, -1, -1);
        x.value(thing);
        for (int name = 0; name < 10; name++) {
            due.is("method", x.method(0, name, -1, -1, 0, false), name);
            due.is("call", x.call(0, name, -1, -1), name + 1);
            due.is("chosen", x.chosen(name + 1), name);
            due.is("wouldChoose", x.wouldChoose(thing, name, -1, -1), name);
        }
        int[] wrong = {LEAST, -1, 10, 11, GREATEST};
        refused(x, "method", Due.NO_USE, n -> x.method(0, n, -1, -1, 0, false), wrong);
        refused(x, "call", Due.NO_USE, n -> x.call(0, n, -1, -1), wrong);
        refused(x, "wouldChoose", Due.NO_USE, n -> x.wouldChoose(thing, n, -1, -1), wrong);
    }

    private static void hintsAll() {
        due.part("3 HINTS, promise 21: 32 of them");
        Hornbook x = new Hornbook();
        x.sort(2, 1, 1);
        x.sort(0, 0, 0);
        x.sort(0, 0, 0);
        int thing = x.type(1, -1, -1);
        int apple = x.type(2, -1, -1);
        x.parent(2, thing);
        int[] own = {2, 0, 0, 0, 0};
        int[] apples = {apple, 0, 0, 0, 0};
        for (int i = 1; i < 5; i++) {
            own[i] = x.type(0, own[i - 1], own[i - 1]);
            apples[i] = x.type(0, apples[i - 1], apples[i - 1]);
        }
        int last = apple;
        int lastThing = thing;
        for (int i = 0; i < 4; i++) last = x.type(0, apples[i], i == 0 ? thing : last);
        for (int i = 0; i < 4; i++) lastThing = x.type(0, i == 0 ? thing : lastThing, apples[i]);
        x.method(1, 0, own[4], own[4], 2, true);
        int of = x.value(thing);
        int all = x.value(apples[4]);
        int one = x.value(last);
        int first = x.value(lastThing);
        due.row("all the SAME", Due.own(x, x.call(of, 0, all, all)), 2);
        due.row("the last of all is above the others", Due.own(x, x.call(of, 0, all, one)), 1);
        due.row("the first of all is", Due.own(x, x.call(of, 0, first, all)), 1);
        due.is("it TAKES them", x.taking(x.call(of, 0, first, one)), 1);
    }

    private static void hintsNone() {
        due.part("3 HINTS, promise 21: none, one, none that all are UNDER");
        Hornbook x = lists();
        int listOfOwn = x.type(1, 2, -1);
        x.method(0, 0, listOfOwn, -1, 2, true);
        x.method(0, 1, 2, -1, 2, true);
        x.method(0, 2, 2, 2, 2, true);
        x.method(0, 3, -1, -1, 2, true);
        int leaf = x.value(3);
        int list = x.value(4);
        int nothing = x.value(1);
        due.row("none, given nothing at all", Due.own(x, x.call(leaf, 3, -1, -1)), -1);
        due.row("none, of NOTHING", Due.own(x, x.call(leaf, 0, nothing, -1)), -1);
        due.row("one", Due.own(x, x.call(leaf, 0, list, -1)), 0);
        due.row("one, NOTHING itself", Due.own(x, x.call(leaf, 1, nothing, -1)), -2);
        due.row("one, ANY itself", Due.own(x, x.call(leaf, 1, x.value(0), -1)), -1);
        due.row("two, neither above", Due.own(x, x.call(leaf, 2, leaf, list)), -1);
        due.row("two, NOTHING first", Due.own(x, x.call(leaf, 2, nothing, list)), 1, 0);
    }

    private static void expressionsAll() {
        due.part("4 EXPRESSIONS, promises 7 to 10: 40 of them, of each kind");
        Hornbook x = new Hornbook();
        x.sort(0, 0, 0);
        int thing = x.type(0, -1, -1);
        x.method(0, 0, -1, -1, thing, false);
        due.is("many(3), none", x.many(3), 0);
        due.is("the first", x.value(thing), 0);
        for (int i = 1; i < 40; i++) {
            int made = i % 4 == 0 ? x.value(thing) : i % 4 == 1 ? x.either(i - 1, 0) : i % 4 == 2 ? x.as(i - 1, 0) : x.call(0, 0, -1, -1);
            due.is("EXPRESSION", made, i);
        }
        due.is("many(3), all", x.many(3), 40);
        due.fails(x, "value", Due.NOT_NOW, () -> x.value(thing));
        due.fails(x, "either", Due.NOT_NOW, () -> x.either(39, 39));
        due.fails(x, "as", Due.NOT_NOW, () -> x.as(39, thing));
        due.fails(x, "call", Due.NOT_NOW, () -> x.call(39, 9, 39, 39));
        due.is("faults()", x.faults(), 0);
        due.row("the last one", Due.line(x, 39), 0);
    }

    private static void expressionsOfSmallerNumbers() {
        due.part("4 EXPRESSIONS: those that are named have smaller numbers");
        Hornbook x = new Hornbook();
        x.value(0);
        for (int i = 1; i < 20; i++) {
            int next = i;
            refused(x, "either, a", Due.NO_SUCH, n -> x.either(n, 0), -1, next, next + 1);
            refused(x, "either, b", Due.NO_SUCH, n -> x.either(0, n), -1, next, next + 1);
            refused(x, "as", Due.NO_SUCH, n -> x.as(n, 0), -1, next, next + 1);
            refused(x, "call, e", Due.NO_SUCH, n -> x.call(n, 0, -1, -1), -1, next, next + 1);
            refused(x, "call, one", Due.NO_SUCH, n -> x.call(0, 0, n, -1), -2, next, next + 1);
            refused(x, "call, other", Due.NO_SUCH, n -> x.call(0, 0, 0, n), -2, next, next + 1);
            due.is("the last that there is", i % 2 == 0 ? x.either(i - 1, i - 1) : x.call(i - 1, 0, i - 1, i - 1), i);
        }
    }

    private static void faultsAll() {
        due.part("4 FAULTS, promises 22 to 24: 39 of them");
        Hornbook x = new Hornbook();
        x.sort(0, 0, 0);
        int thing = x.type(0, -1, -1);
        x.value(thing);
        for (int i = 1; i < 40; i++) {
            if (i % 2 == 0) x.as(0, 1);
            else x.call(0, 0, -1, -1);
            due.is("faults()", x.faults(), i);
        }
        for (int f = 0; f < 39; f++) {
            due.is("ofFault(" + f + ", 0)", x.ofFault(f, 0), f + 1);
            due.is("ofFault(" + f + ", 1)", x.ofFault(f, 1), f % 2 == 0 ? 1 : 4);
            due.is("isFaulty", x.isFaulty(f + 1), true);
        }
        due.is("the VALUE", x.isFaulty(0), false);
        refused(x, "ofFault", Due.NO_SUCH, n -> x.ofFault(n, 0), outside(0, 39));
        refused(x, "ofFault, what, too", Due.NO_SUCH, n -> x.ofFault(n, 2), -1, 39);
        refused(x, "ofFault, what", Due.NO_USE, n -> x.ofFault(38, n), LEAST, -1, 2, GREATEST);
        due.is("one that there is no more for both", x.faultsWithout(x.method(0, 0, -1, -1, 0, false)), 39);
        due.is("the CALLS have one", x.faults(), 19);
    }

    private static void faultsNone() {
        due.part("4 FAULTS, promises 22 to 24: none, and one that others have in them");
        Hornbook x = new Hornbook();
        due.is("faults()", x.faults(), 0);
        refused(x, "ofFault of none", Due.NO_SUCH, n -> x.ofFault(n, 0), LEAST, -1, 0, 1, GREATEST);
        refused(x, "isFaulty of none", Due.NO_SUCH, x::isFaulty, LEAST, -1, 0, 1, GREATEST);
        x.value(0);
        x.call(0, 0, -1, -1);
        for (int i = 2; i < 40; i++) x.either(i - 1, 0);
        due.is("one", x.faults(), 1);
        due.is("the first EXPRESSION", x.isFaulty(0), false);
        for (int i = 1; i < 40; i++) due.is("isFaulty", x.isFaulty(i), true);
        due.is("ofFault(0, 0)", x.ofFault(0, 0), 1);
        due.fails(x, "ofFault(1, 0)", Due.NO_SUCH, () -> x.ofFault(1, 0));
    }

    private static void flawsAll() {
        due.part("5 FLAWS, promises 25 and 26: all that there can be, 63");
        Hornbook x = new Hornbook();
        x.sort(1, 1, 0);
        int first = x.parameter(0);
        int second = x.parameter(1);
        int one = x.type(0, first, -1);
        int other = x.type(0, second, -1);
        for (int i = 1; i < 12; i++) {
            x.sort(2, 2, 2);
            x.parent(i, one);
            x.parent(i, other);
        }
        for (int m = 0; m < 30; m++) x.method(m % 11 + 1, 0, one, -1, second, false);
        due.is("flaws()", x.flaws(), 63);
        int flaw = 0;
        for (int i = 1; i < 12; i++) {
            int[][] is = {{1, 0}, {1, 1}, {2, -1}, {3, i - 1}, {3, i + 10}, {3, i + 21}};
            for (int[] f : is) {
                if (f[1] >= 30) continue;
                due.is("SORT of " + flaw, x.ofFlaw(flaw, 0), i);
                due.is("code of " + flaw, x.ofFlaw(flaw, 1), f[0]);
                due.is("place of " + flaw, x.ofFlaw(flaw, 2), f[1]);
                flaw++;
            }
        }
        due.is("all of them", flaw, 63);
        refused(x, "ofFlaw", Due.NO_SUCH, n -> x.ofFlaw(n, 0), -1, -2, LEAST, 63, 64, GREATEST);
        refused(x, "ofFlaw, what, too", Due.NO_SUCH, n -> x.ofFlaw(n, 3), -1, 63);
        refused(x, "ofFlaw, what", Due.NO_USE, n -> x.ofFlaw(62, n), LEAST, -1, 3, GREATEST);
    }

    private static void flawsNone() {
        due.part("5 FLAWS, promises 25 and 26: none, one");
        Hornbook x = new Hornbook();
        due.is("flaws()", x.flaws(), 0);
        refused(x, "ofFlaw of none", Due.NO_SUCH, n -> x.ofFlaw(n, 0), LEAST, -1, 0, 1, GREATEST);
        x.sort(1, 1, 0);
        int open = x.parameter(0);
        x.method(0, 0, -1, -1, open, false);
        due.is("still none", x.flaws(), 0);
        x.method(0, 0, open, -1, open, false);
        due.is("one", x.flaws(), 1);
        due.is("ofFlaw(0, 2)", x.ofFlaw(0, 2), 1);
        due.fails(x, "ofFlaw(1, 0)", Due.NO_SUCH, () -> x.ofFlaw(1, 0));
    }

    private static void indexes() {
        due.part("promises 3, 4, 6, 7, 11 to 16, 27 to 30: numbers that there are not");
        Hornbook x = new Hornbook();
        x.sort(0, 0, 0);
        x.sort(2, 1, 2);
        int thing = x.type(0, -1, -1);
        x.method(0, 0, -1, -1, 0, false);
        int[] sorts = outside(0, 2);
        int[] types = outside(0, 4);
        int[] orNone = {LEAST, -2, 4, 5, 60, GREATEST};
        refused(x, "parent, sort", Due.NO_SUCH, n -> x.parent(n, thing), sorts);
        refused(x, "parent, type", Due.NO_SUCH, n -> x.parent(1, n), types);
        refused(x, "type, sort", Due.NO_SUCH, n -> x.type(n, -1, -1), sorts);
        refused(x, "type, one", Due.NO_SUCH, n -> x.type(1, n, 0), orNone);
        refused(x, "type, other", Due.NO_SUCH, n -> x.type(1, 0, n), orNone);
        refused(x, "method, sort", Due.NO_SUCH, n -> x.method(n, 0, -1, -1, 0, false), sorts);
        refused(x, "method, one", Due.NO_SUCH, n -> x.method(0, 0, n, -1, 0, false), orNone);
        refused(x, "method, other", Due.NO_SUCH, n -> x.method(0, 0, 0, n, 0, false), orNone);
        refused(x, "method, result", Due.NO_SUCH, n -> x.method(0, 0, -1, -1, n, false), types);
        refused(x, "value", Due.NO_SUCH, x::value, types);
        refused(x, "many", Due.NO_USE, x::many, LEAST, -2, -1, 4, 5, GREATEST);
        refused(x, "depth", Due.NO_SUCH, x::depth, types);
        refused(x, "isSame, a", Due.NO_SUCH, n -> x.isSame(n, 0), types);
        refused(x, "isSame, b", Due.NO_SUCH, n -> x.isSame(0, n), types);
        refused(x, "isUnder, a", Due.NO_SUCH, n -> x.isUnder(n, 0), types);
        refused(x, "isUnder, b", Due.NO_SUCH, n -> x.isUnder(0, n), types);
        refused(x, "road", Due.NO_SUCH, n -> x.road(n, 0, 0), types);
        refused(x, "join, a", Due.NO_SUCH, n -> x.join(n, 0, 0), types);
        refused(x, "join, b", Due.NO_SUCH, n -> x.join(0, n, 0), types);
        refused(x, "wouldChoose, type", Due.NO_SUCH, n -> x.wouldChoose(n, 0, -1, -1), types);
        refused(x, "wouldChoose, one", Due.NO_SUCH, n -> x.wouldChoose(0, 0, n, -1), orNone);
        refused(x, "wouldChoose, other", Due.NO_SUCH, n -> x.wouldChoose(0, 0, 0, n), orNone);
        refused(x, "faultsWithout", Due.NO_SUCH, x::faultsWithout, outside(0, 1));
        refused(x, "faultsWith, sort", Due.NO_SUCH, n -> x.faultsWith(n, 0, 0), sorts);
        refused(x, "faultsWith, parameter", Due.NO_SUCH, n -> x.faultsWith(1, n, 0), outside(0, 2));
        refused(x, "faultsWith, how", Due.NO_USE, n -> x.faultsWith(1, 1, n), LEAST, -1, 3, GREATEST);
        refused(x, "flawsWith, sort", Due.NO_SUCH, n -> x.flawsWith(n, 0, 0), sorts);
        refused(x, "flawsWith, parameter", Due.NO_SUCH, n -> x.flawsWith(1, n, 0), outside(0, 2));
        refused(x, "flawsWith, how", Due.NO_USE, n -> x.flawsWith(1, 1, n), LEAST, -1, 3, GREATEST);
        refused(x, "a SORT without PARAMETERS", Due.NO_SUCH, n -> x.faultsWith(0, n, 0), -1, 0, 1, 2);
        refused(x, "a SORT without PARAMETERS", Due.NO_SUCH, n -> x.flawsWith(0, n, 0), -1, 0, 1, 2);
    }

    private static void indexesOfExpressions() {
        due.part("promises 8 to 10, 17 to 21 and 24: EXPRESSIONS that there are not");
        for (int size = 0; size <= 2; size++) {
            Hornbook x = new Hornbook();
            for (int i = 0; i < size; i++) x.value(i);
            int[] none = outside(0, size);
            refused(x, "either, a", Due.NO_SUCH, n -> x.either(n, 0), none);
            refused(x, "either, b", Due.NO_SUCH, n -> x.either(0, n), none);
            refused(x, "as", Due.NO_SUCH, n -> x.as(n, 0), none);
            refused(x, "call", Due.NO_SUCH, n -> x.call(n, 0, -1, -1), none);
            refused(x, "line", Due.NO_SUCH, n -> x.line(n, 0), none);
            refused(x, "line, k below 0, too", Due.NO_SUCH, n -> x.line(n, -1), none);
            refused(x, "seen", Due.NO_SUCH, x::seen, none);
            refused(x, "taking", Due.NO_SUCH, x::taking, none);
            refused(x, "chosen", Due.NO_SUCH, x::chosen, none);
            refused(x, "own", Due.NO_SUCH, n -> x.own(n, 0), none);
            refused(x, "isFaulty", Due.NO_SUCH, x::isFaulty, none);
            due.is("many(3)", x.many(3), size);
        }
    }

    private static void firstOfSeveral() {
        due.part("of several exceptions the one that is named first");
        Hornbook x = new Hornbook();
        for (int i = 0; i < 12; i++) x.sort(i == 1 ? 2 : 0, 0, 0);
        int open = x.parameter(0);
        while (x.many(1) < 60) x.type(0, -1, -1);
        while (x.many(2) < 30) x.method(0, 0, -1, -1, 0, false);
        while (x.many(3) < 40) x.value(0);
        x.parent(11, 59);
        x.parent(11, 59);
        due.fails(x, "sort: IAE, ISE", Due.NO_USE, () -> x.sort(3, 0, 0));
        due.fails(x, "parent: IOOBE, IAE", Due.NO_SUCH, () -> x.parent(12, 0));
        due.fails(x, "parent: IOOBE, IAE, the TYPE", Due.NO_SUCH, () -> x.parent(0, 60));
        due.fails(x, "parent: IAE, ISE", Due.NO_USE, () -> x.parent(11, 0));
        due.fails(x, "parent: IOOBE, ISE", Due.NO_SUCH, () -> x.parent(11, 60));
        due.fails(x, "type: IOOBE, IAE, ISE", Due.NO_SUCH, () -> x.type(12, -1, 0));
        due.fails(x, "type: IOOBE of the other one", Due.NO_SUCH, () -> x.type(1, -1, 60));
        due.fails(x, "type: IAE, ISE", Due.NO_USE, () -> x.type(1, -1, 0));
        due.fails(x, "parameter: IAE, ISE", Due.NO_USE, () -> x.parameter(2));
        due.fails(x, "method: IOOBE, IAE, ISE", Due.NO_SUCH, () -> x.method(0, 10, -1, 0, 60, false));
        due.fails(x, "method: IOOBE of the other one", Due.NO_SUCH, () -> x.method(0, 10, -1, -2, 0, false));
        due.fails(x, "method: IAE, ISE, NAME", Due.NO_USE, () -> x.method(0, 10, -1, -1, 0, false));
        due.fails(x, "method: IAE, ISE, order", Due.NO_USE, () -> x.method(0, 0, -1, 0, 0, false));
        due.fails(x, "method: IAE, ISE, PARAMETER", Due.NO_USE, () -> x.method(0, 0, open, -1, 0, false));
        due.fails(x, "method: IAE, ISE, the OWN TYPE", Due.NO_USE, () -> x.method(1, 0, 2, -1, open, false));
        due.fails(x, "value: IOOBE, ISE", Due.NO_SUCH, () -> x.value(60));
        due.fails(x, "value: IAE, ISE", Due.NO_USE, () -> x.value(open));
        due.fails(x, "either: IOOBE, ISE", Due.NO_SUCH, () -> x.either(0, 40));
        due.fails(x, "as: IOOBE, IAE, ISE", Due.NO_SUCH, () -> x.as(40, open));
        due.fails(x, "as: IOOBE of the TYPE", Due.NO_SUCH, () -> x.as(0, 60));
        due.fails(x, "as: IAE, ISE", Due.NO_USE, () -> x.as(0, open));
        due.fails(x, "call: IOOBE, IAE, ISE", Due.NO_SUCH, () -> x.call(0, 10, -1, 40));
        due.fails(x, "call: IAE, ISE, NAME", Due.NO_USE, () -> x.call(0, 10, -1, -1));
        due.fails(x, "call: IAE, ISE, order", Due.NO_USE, () -> x.call(0, 0, -1, 0));
        due.fails(x, "ofFault: IOOBE, IAE", Due.NO_SUCH, () -> x.ofFault(0, 2));
        due.fails(x, "ofFlaw: IOOBE, IAE", Due.NO_SUCH, () -> x.ofFlaw(0, 3));
        due.fails(x, "wouldChoose: IOOBE, IAE", Due.NO_SUCH, () -> x.wouldChoose(open, 10, -1, 60));
        due.fails(x, "faultsWith: IOOBE, IAE", Due.NO_SUCH, () -> x.faultsWith(0, 0, 3));
        due.fails(x, "flawsWith: IOOBE, IAE", Due.NO_SUCH, () -> x.flawsWith(1, 2, 3));
    }

    private static void places() {
        due.part("promise 15: -9 where there is none, as with k or place below 0");
        Hornbook x = lists();
        int[] below = {LEAST, LEAST + 1, -10, -9, -2, -1};
        int[] above = {1, 2, 12, 60, 1 << 20, GREATEST - 1, GREATEST};
        for (int n : below) due.is("place " + n, x.road(7, n, 0), -9);
        for (int n : below) due.is("k " + n, x.road(7, 0, n), -9);
        for (int n : below) due.is("both " + n, x.road(7, n, n), -9);
        for (int n : above) due.is("place " + n, x.road(7, n, 0), -9);
        for (int k = 0; k < 5; k++) due.is("k " + k, x.road(7, 0, k), k < 4 ? 1 : 0);
        due.is("k 5", x.road(7, 0, 5), -9);
        for (int n : above) if (n > 4) due.is("k " + n, x.road(7, 0, n), -9);
    }

    private static void linesShort() {
        due.part("promises 16, 17 and 21: LINES of one, k at and behind the end, and below 0");
        Hornbook x = lists();
        x.method(0, 0, 2, -1, 2, true);
        int leaf = x.value(3);
        int own = x.call(leaf, 0, leaf, -1);
        for (int k : new int[] {LEAST, -2, -1, 1, 2, 6, 1000, 1024, GREATEST}) {
            due.is("join, k " + k, x.join(0, 1, k), -9);
            due.is("join, k " + k, x.join(3, 3, k), -9);
            due.is("line, k " + k, x.line(leaf, k), -9);
            due.is("own, k " + k, x.own(own, k), -9);
            due.is("own of none, k " + k, x.own(leaf, k), -9);
        }
        due.is("join, k 0", x.join(0, 1, 0), -1);
        due.is("line, k 0", x.line(leaf, 0), 0);
        due.is("own, k 0", x.own(own, 0), 0);
        due.is("own of none, k 0", x.own(leaf, 0), -9);
        // the places of a LINE: ANY -1, NOTHING -2, the OWN TYPE -3, the PARAMETERS -4 and -5
        int[] leaves = {0, 1, 2, 8, 9};
        for (int i = 0; i < 5; i++) due.row("a LINE", Due.join(x, leaves[i], leaves[i]), -1 - i);
    }

    private static void linesLong() {
        due.part("promises 16 and 17: a LINE of 31, its last place, and the next one");
        Hornbook x = new Hornbook();
        x.sort(2, 1, 1);
        x.sort(0, 0, 0);
        int t = x.type(1, -1, -1);
        for (int i = 0; i < 4; i++) t = x.type(0, t, t);
        x.value(t);
        due.is("place 30", x.line(0, 30), 1);
        due.is("place 29", x.line(0, 29), 1);
        due.is("place 28", x.line(0, 28), 0);
        due.is("place 31", x.line(0, 31), -9);
        due.is("join, place 30", x.join(t, t, 30), 1);
        due.is("join, place 31", x.join(t, t, 31), -9);
        due.is("road, place 30", x.road(t, 0, 30), 1);
        due.is("road, place 31", x.road(t, 0, 31), -9);
    }

    private static void wouldChooseAll() {
        due.part("promise 27: METHODS 0 and 29, and -1, -2, -3");
        Hornbook x = new Hornbook();
        x.sort(0, 0, 0);
        int thing = x.type(0, -1, -1);
        due.is("none told", x.wouldChoose(thing, 0, -1, -1), -1);
        for (int m = 0; m < 30; m++) x.method(0, m < 2 ? m : m < 29 ? 2 : 3, m < 2 || m == 29 ? -1 : thing, -1, 0, false);
        due.is("the first", x.wouldChoose(thing, 0, -1, -1), 0);
        due.is("the last", x.wouldChoose(thing, 3, -1, -1), 29);
        due.is("of none", x.wouldChoose(thing, 4, -1, -1), -1);
        due.is("of ANY", x.wouldChoose(0, 0, -1, -1), -1);
        due.is("of NOTHING", x.wouldChoose(1, 0, -1, -1), -1);
        due.is("none TAKES two", x.wouldChoose(thing, 2, thing, thing), -2);
        due.is("none TAKES none", x.wouldChoose(thing, 2, -1, -1), -2);
        due.is("none is BETTER", x.wouldChoose(thing, 2, thing, -1), -3);
        due.is("nothing is told", x.many(3), 0);
    }

    private static void withoutAll() {
        due.part("promise 28: the first and the last METHOD of 30; no EXPRESSION");
        Hornbook x = new Hornbook();
        x.sort(0, 0, 0);
        int thing = x.type(0, -1, -1);
        for (int m = 0; m < 30; m++) x.method(0, m == 0 ? 0 : m == 29 ? 9 : 5, -1, -1, 0, false);
        for (int m = 0; m < 30; m++) due.is("without any EXPRESSION", x.faultsWithout(m), 0);
        x.value(thing);
        x.call(0, 0, -1, -1);
        x.call(0, 9, -1, -1);
        due.is("faults()", x.faults(), 0);
        due.is("without the first", x.faultsWithout(0), 1);
        due.is("without the last", x.faultsWithout(29), 1);
        due.is("without another one", x.faultsWithout(14), 0);
        refused(x, "faultsWithout", Due.NO_SUCH, x::faultsWithout, LEAST, -1, 30, 31, GREATEST);
        due.is("faults()", x.faults(), 0);
    }

    private static void withEachParameter() {
        due.part("promises 29 and 30: each PARAMETER of a SORT with 0, 1 and 2, each way");
        Hornbook x = new Hornbook();
        for (int i = 0; i < 12; i++) x.sort(i % 3, 1, 2);
        int open = x.parameter(0);
        int other = x.parameter(1);
        x.method(11, 0, open, -1, 0, false);
        x.method(11, 0, -1, -1, other, false);
        for (int i = 0; i < 12; i++) {
            int sort = i;
            for (int p = 0; p < 2; p++) {
                int parameter = p;
                for (int how = -1; how <= 3; how++) {
                    int at = how;
                    Class<?> why = p >= i % 3 ? Due.NO_SUCH : at < 0 || at > 2 ? Due.NO_USE : null;
                    if (why != null) due.fails(x, "faultsWith", why, () -> x.faultsWith(sort, parameter, at));
                    if (why != null) due.fails(x, "flawsWith", why, () -> x.flawsWith(sort, parameter, at));
                    if (why != null) continue;
                    due.is("faultsWith", x.faultsWith(i, p, how), 0);
                    // the first one, OUT, is GIVEN, the second one, IN, is a RESULT
                    due.is("flawsWith", x.flawsWith(i, p, how), i == 11 && how != p + 1 ? 1 : 2);
                }
            }
            refused(x, "no third one", Due.NO_SUCH, n -> x.flawsWith(sort, n, 0), LEAST, -1, 2, 3, GREATEST);
        }
        due.is("flaws()", x.flaws(), 2);
    }

    private static void meanOfAll() {
        due.part("promise 31: none, one, all 40; not rounded");
        Hornbook x = lists();
        due.is("none", x.meanDepth(), 0.0);
        x.value(7);
        due.is("one", x.meanDepth(), 4.0);
        x.value(3);
        x.value(3);
        due.is("three", x.meanDepth(), 4.0 / 3.0);
        int sum = 4;
        for (int i = 3; i < 40; i++) {
            x.value(3 + i % 5);
            sum += i % 5;
            due.is("of " + (i + 1), x.meanDepth(), (double) sum / (i + 1));
        }
    }

    private static void meanOfDeepJoins() {
        due.part("promise 31: JOINS deeper than both, along second PARENTS, in a SORT that was told last; deepest in the other part");
        Hornbook x = new Hornbook();
        x.sort(1, 1, 0);
        x.sort(2, 1, 1);
        for (int i = 2; i < 8; i++) x.sort(0, 0, 0);
        int[][] types = {{x.type(2, -1, -1), x.type(3, -1, -1)}, {0, 0}, {0, 0}};
        for (int i = 4; i < 8; i++) {
            int top = types[0][i % 2];
            int list = types[i / 2 - 2][i % 2];
            for (int deep = 1; deep <= 4; deep++) list = x.type(0, list, -1);
            due.is("parent", x.parent(i, top), 1);
            due.is("parent", x.parent(i, list), 2);
            types[i / 2 - 1][i % 2] = x.type(i, -1, -1);
        }
        x.sort(1, 1, 0);
        int[] pairs = new int[2];
        int[] last = new int[2];
        for (int side = 0; side < 2; side++) {
            int in = types[2][side];
            int boxes = in;
            for (int deep = 1; deep <= 3; deep++) boxes = x.type(8, boxes, -1);
            pairs[side] = x.type(1, types[1][side], in);
            last[side] = x.type(1, x.type(0, in, -1), boxes);
        }
        int[][] joined = {types[0], types[1], types[2], pairs, last};
        int[] depths = {0, 4, 8, 9, 12};
        int sum = 0;
        for (int i = 0; i < 5; i++) {
            int first = x.value(joined[i][0]);
            due.is("either", x.either(first, x.value(joined[i][1])), first + 2);
            sum += x.depth(joined[i][0]) + x.depth(joined[i][1]) + depths[i];
            due.is("with a JOIN that is " + depths[i] + " deep", x.meanDepth(), (double) sum / (3 * i + 3));
        }
        due.is("the other way round", x.either(13, 12), 15);
        due.is("the other way round", x.meanDepth(), (sum + 12) / 16.0);
    }

    /** d as it is without an end, wrapped around only at last. */
    private static long wrapped(int... numbers) {
        BigInteger d = BigInteger.valueOf(58064);
        for (int n : numbers) d = d.multiply(BigInteger.valueOf(31)).add(BigInteger.valueOf(n));
        return d.longValue();
    }

    private static void digestWraps() {
        due.part("promise 32: it wraps around as a 64-bit integer");
        Hornbook x = new Hornbook();
        due.is("of a new one", x.digest(), wrapped(0, 3, 0, 0, 0, 0, 0, -9, -9, -9, -9, 0, -9, -9, -9, -9, 0, -9, -9, -9, -9));
        x.value(0);
        due.is("with a VALUE", x.digest(), wrapped(0, 3, 0, 1, 0, 0, 0, -9, -9, -9, -9, 0, -9, -9, -9, -9, 0, -9, -9, -9, -9,
                -1, -9, -9, -9, -9, -9, 0, 0, -1, -9, 0));
        x.call(0, 0, -1, -1);
        due.is("with a FAULT", x.digest(), wrapped(0, 3, 0, 2, 1, 0, 0, -9, -9, -9, -9, 0, -9, -9, -9, -9, 0, -9, -9, -9, -9,
                -1, -9, -9, -9, -9, -9, 0, 0, -1, -9, 0, -2, -9, -9, -9, -9, -9, 0, 0, -1, -9, 1, 1, 1));
        x.sort(1, 1, 0);
        int open = x.parameter(0);
        x.method(0, 0, open, -1, 0, false);
        due.is("with a FLAW", x.digest(), wrapped(1, 4, 1, 2, 1, 1, 0, -9, -9, -9, -9, 0, -9, -9, -9, -9, 0, -9, -9, -9, -9,
                0, -9, -9, -9, -9, -1, -9, -9, -9, -9, -9, 0, 0, -1, -9, 0, -2, -9, -9, -9, -9, -9, 0, 0, -1, -9, 1, 1, 1, 0, 3, 0));
    }

    private static void digestOfAll() {
        due.part("promise 32: when all is full; asked again it is the same");
        Hornbook x = new Hornbook();
        PlainHornbook y = new PlainHornbook();
        for (int i = 0; i < 12; i++) due.is("sort", x.sort(i % 3, i / 3 % 3, i % 2), y.sort(i % 3, i / 3 % 3, i % 2));
        due.is("parameter", x.parameter(0), y.parameter(0));
        for (int i = 4; i < 60; i++) {
            int sort = i % 12;
            int one = sort % 3 == 0 ? -1 : Math.min(i % 7, i - 1);
            int other = sort % 3 == 2 ? i % 3 : -1;
            boolean isDeep = one > 0 && x.depth(one) >= 4;
            due.is("type", x.type(sort, isDeep ? 0 : one, other), y.type(sort, isDeep ? 0 : one, other));
        }
        for (int m = 0; m < 30; m++) due.is("method", x.method(m % 12, m % 3, m % 2 == 0 ? 2 : 0, -1, 2, true),
                y.method(m % 12, m % 3, m % 2 == 0 ? 2 : 0, -1, 2, true));
        due.is("value", x.value(0), y.value(0));
        for (int e = 1; e < 40; e++) {
            int t = 3 + (e * 7) % 57;
            if (y.types.get(t).isClosed()) due.is("value", x.value(t), y.value(t));
            else due.is("call", x.call(e - 1, e % 3, e / 2, -1), y.call(e - 1, e % 3, e / 2, -1));
        }
        due.is("digest()", x.digest(), y.digest());
        due.is("digest() again", x.digest(), y.digest());
    }
}
