/** Promises 12 to 16: DEPTH, the SAME, UNDER, ROAD and JOIN. */
public final class TypesTest {
    private static final Due due = new Due();

    public static void main(String[] args) {
        promise12();
        promise13();
        promise14();
        promise14OnTheRoad();
        promise14Inward();
        promise15();
        promise15Twice();
        promise15Cut();
        promise16();
        promise16Inner();
        promise16NotCut();
        due.end();
    }

    private static void promise12() {
        due.part("12 depth");
        Hornbook x = new Hornbook();
        x.sort(0, 0, 0);
        x.sort(2, 0, 0);
        int thing = x.type(0, -1, -1);
        int first = x.parameter(0);
        int pair = x.type(1, thing, thing);
        int left = x.type(1, pair, thing);
        int right = x.type(1, thing, left);
        int ofOwn = x.type(1, 2, first);
        due.is("ANY", x.depth(0), 0);
        due.is("NOTHING", x.depth(1), 0);
        due.is("the OWN TYPE", x.depth(2), 0);
        due.is("a SORT with none in it", x.depth(thing), 0);
        due.is("a PARAMETER", x.depth(first), 0);
        due.is("a pair", x.depth(pair), 1);
        due.is("a pair in the first one", x.depth(left), 2);
        due.is("that in the second one", x.depth(right), 3);
        due.is("a pair of the OWN TYPE and a PARAMETER", x.depth(ofOwn), 1);
        due.fails(x, "depth(-1)", Due.NO_SUCH, () -> x.depth(-1));
        due.fails(x, "depth(9)", Due.NO_SUCH, () -> x.depth(9));
    }

    private static void promise13() {
        due.part("13 isSame");
        Hornbook x = new Hornbook();
        x.sort(0, 0, 0);
        x.sort(0, 0, 0);
        x.sort(2, 1, 1);
        int a = x.type(0, -1, -1);
        int b = x.type(1, -1, -1);
        int again = x.type(0, -1, -1);
        int ab = x.type(2, a, b);
        int ba = x.type(2, b, a);
        int abAgain = x.type(2, again, b);
        due.is("itself", x.isSame(a, a), true);
        due.is("built again", x.isSame(a, again), true);
        due.is("another SORT", x.isSame(a, b), false);
        due.is("built again of others", x.isSame(ab, abAgain), true);
        due.is("the other way round", x.isSame(ab, ba), false);
        due.is("ANY and NOTHING", x.isSame(0, 1), false);
        due.is("ANY and a SORT", x.isSame(0, a), false);
        due.is("the OWN TYPE and itself", x.isSame(2, 2), true);
        x.parent(1, a);
        due.is("a SORT and its PARENT", x.isSame(b, a), false);
        due.fails(x, "isSame(-1, 0)", Due.NO_SUCH, () -> x.isSame(-1, 0));
        due.fails(x, "isSame(0, -1)", Due.NO_SUCH, () -> x.isSame(0, -1));
        due.fails(x, "isSame(9, 0)", Due.NO_SUCH, () -> x.isSame(9, 0));
        due.fails(x, "isSame(0, 9)", Due.NO_SUCH, () -> x.isSame(0, 9));
    }

    /** A fruit bowl: SORTS 0 thing, 1 fruit, 2 apple, 3 source OUT, 4 sink IN, 5 cell FIXED, each with its TYPES. */
    private static Hornbook bowl() {
        Hornbook x = new Hornbook();
        x.sort(0, 0, 0);
        x.sort(0, 0, 0);
        x.sort(0, 0, 0);
        x.sort(1, 1, 0);
        x.sort(1, 2, 0);
        x.sort(1, 0, 0);
        for (int i = 0; i < 3; i++) x.type(i, -1, -1);
        x.parent(1, 3);
        x.parent(2, 4);
        x.parameter(0);
        x.type(3, 6, -1);
        x.type(4, 6, -1);
        x.parent(5, 7);
        x.parent(5, 8);
        return x;
    }

    private static void promise14() {
        due.part("14 isUnder");
        Hornbook x = bowl();
        int[] source = {x.type(3, 3, -1), x.type(3, 4, -1), x.type(3, 5, -1)};
        int[] sink = {x.type(4, 3, -1), x.type(4, 4, -1), x.type(4, 5, -1)};
        int[] cell = {x.type(5, 3, -1), x.type(5, 4, -1), x.type(5, 5, -1)};
        for (int i = 0; i < 3; i++) {
            for (int j = 0; j < 3; j++) {
                String which = " " + i + " and " + j;
                due.is("things" + which, x.isUnder(3 + i, 3 + j), i >= j);
                due.is("sources" + which, x.isUnder(source[i], source[j]), i >= j);
                due.is("sinks" + which, x.isUnder(sink[i], sink[j]), i <= j);
                due.is("cells" + which, x.isUnder(cell[i], cell[j]), i == j);
                due.is("cell and source" + which, x.isUnder(cell[i], source[j]), i >= j);
                due.is("cell and sink" + which, x.isUnder(cell[i], sink[j]), i <= j);
                due.is("source and cell" + which, x.isUnder(source[i], cell[j]), false);
                due.is("source and sink" + which, x.isUnder(source[i], sink[j]), false);
            }
        }
        due.is("a SORT under ANY", x.isUnder(cell[0], 0), true);
        due.is("a SORT under NOTHING", x.isUnder(cell[0], 1), false);
        due.is("ANY under a SORT", x.isUnder(0, 3), false);
        due.is("NOTHING under a SORT", x.isUnder(1, cell[0]), true);
        due.is("NOTHING under the OWN TYPE", x.isUnder(1, 2), true);
        due.is("a PARAMETER under itself", x.isUnder(6, 6), true);
        due.is("a PARAMETER under ANY", x.isUnder(6, 0), true);
        due.is("a PARAMETER under the OWN TYPE", x.isUnder(6, 2), false);
        due.is("a SORT under a PARAMETER", x.isUnder(3, 6), false);
        due.is("a PARAMETER under a SORT", x.isUnder(6, 3), false);
        due.fails(x, "isUnder(-1, 0)", Due.NO_SUCH, () -> x.isUnder(-1, 0));
        due.fails(x, "isUnder(0, -1)", Due.NO_SUCH, () -> x.isUnder(0, -1));
        due.fails(x, "isUnder(99, 0)", Due.NO_SUCH, () -> x.isUnder(99, 0));
        due.fails(x, "isUnder(0, 99)", Due.NO_SUCH, () -> x.isUnder(0, 99));
    }

    private static void promise14OnTheRoad() {
        due.part("14 isUnder, on the ROAD");
        Hornbook x = bowl();
        int open = x.type(5, 6, -1);
        due.is("an open cell under an open source", x.isUnder(open, 7), true);
        due.is("an open source under an open cell", x.isUnder(7, open), false);
        x.sort(2, 0, 1);
        int second = x.parameter(1);
        int ofSecond = x.type(3, second, -1);
        x.parent(6, ofSecond);
        int box = x.type(6, 3, 5);
        int sourceOfApples = x.type(3, 5, -1);
        int sourceOfThings = x.type(3, 3, -1);
        int boxOfFruit = x.type(6, 3, 4);
        int otherBox = x.type(6, 4, 5);
        due.is("its second one goes up", x.isUnder(box, sourceOfApples), true);
        due.is("and from there", x.isUnder(box, sourceOfThings), true);
        due.is("OUT in the second one", x.isUnder(box, boxOfFruit), true);
        due.is("and not back", x.isUnder(boxOfFruit, box), false);
        due.is("FIXED in the first one", x.isUnder(otherBox, box), false);
    }

    private static void promise14Inward() {
        due.part("14 isUnder, INWARD of INWARD");
        Hornbook x = bowl();
        int sinkOfThings = x.type(4, 3, -1);
        int sinkOfApples = x.type(4, 5, -1);
        int twiceThings = x.type(4, sinkOfThings, -1);
        int twiceApples = x.type(4, sinkOfApples, -1);
        due.is("twice INWARD", x.isUnder(twiceApples, twiceThings), true);
        due.is("not back", x.isUnder(twiceThings, twiceApples), false);
        int cellOfApples = x.type(5, 5, -1);
        int sinkOfCells = x.type(4, cellOfApples, -1);
        int sourceOfFruit = x.type(3, 4, -1);
        int sinkOfSources = x.type(4, sourceOfFruit, -1);
        due.is("a sink of sources under one of cells", x.isUnder(sinkOfSources, sinkOfCells), true);
        due.is("not back", x.isUnder(sinkOfCells, sinkOfSources), false);
        int any = x.type(4, 0, -1);
        int none = x.type(4, 1, -1);
        due.is("sink of ANY under each", x.isUnder(any, sinkOfSources), true);
        due.is("each under the sink of NOTHING", x.isUnder(sinkOfSources, none), true);
        due.is("not back", x.isUnder(none, any), false);
    }

    private static void promise15() {
        due.part("15 road");
        Hornbook x = bowl();
        int cell = x.type(5, 5, -1);
        due.row("place 0", Due.road(x, cell, 0), 5, 2);
        due.row("place 1", Due.road(x, cell, 1), 3, 2);
        due.row("place 2", Due.road(x, cell, 2), 4, 2);
        due.row("place 3", Due.road(x, cell, 3));
        due.row("apple, place 2", Due.road(x, 5, 2), 0);
        due.is("place -1", x.road(cell, -1, 0), -9);
        due.is("place far", x.road(cell, Integer.MAX_VALUE, 0), -9);
        due.is("place least", x.road(cell, Integer.MIN_VALUE, 0), -9);
        due.is("k -1", x.road(cell, 0, -1), -9);
        due.is("k 2", x.road(cell, 0, 2), -9);
        due.is("k least", x.road(cell, 0, Integer.MIN_VALUE), -9);
        due.is("k greatest", x.road(cell, 0, Integer.MAX_VALUE), -9);
        due.is("ANY has none", x.road(0, 0, 0), -9);
        due.is("NOTHING has none", x.road(1, 0, 0), -9);
        due.is("the OWN TYPE has none", x.road(2, 0, 0), -9);
        due.is("a PARAMETER has none", x.road(6, 0, 0), -9);
        due.row("an open one", Due.road(x, 7, 0), 3, -4);
        int ofOwn = x.type(5, 2, -1);
        due.row("of the OWN TYPE", Due.road(x, ofOwn, 2), 4, -3);
        x.sort(2, 0, 0);
        int second = x.parameter(1);
        int turned = x.type(6, second, 6);
        int box = x.type(6, cell, 5);
        due.row("its LINE", Due.road(x, box, 0), 6, 5, 2, 2);
        x.sort(2, 0, 0);
        x.parent(7, turned);
        int turning = x.type(7, cell, 5);
        due.row("both PARAMETERS at once", Due.road(x, turning, 1), 6, 2, 5, 2);
        due.fails(x, "road(-1, 0, 0)", Due.NO_SUCH, () -> x.road(-1, 0, 0));
        due.fails(x, "road(99, 0, 0)", Due.NO_SUCH, () -> x.road(99, 0, 0));
        due.fails(x, "road(99, -1, -1)", Due.NO_SUCH, () -> x.road(99, -1, -1));
    }

    private static void promise15Twice() {
        due.part("15 road, a SORT that comes twice");
        Hornbook x = bowl();
        int sourceOfFruit = x.type(3, 4, -1);
        int sourceOfApples = x.type(3, 5, -1);
        x.sort(0, 0, 0);
        x.sort(0, 0, 0);
        x.parent(6, sourceOfFruit);
        x.parent(6, 3);
        int bin = x.type(6, -1, -1);
        x.parent(7, bin);
        x.parent(7, sourceOfApples);
        int tree = x.type(7, -1, -1);
        due.row("place 1", Due.road(x, tree, 1), 6);
        due.row("place 2, the first one that comes", Due.road(x, tree, 2), 3, 1);
        due.row("place 3, with the whole ROAD before the second PARENT", Due.road(x, tree, 3), 0);
        due.row("place 4", Due.road(x, tree, 4));
        due.is("under the source of fruit", x.isUnder(tree, sourceOfFruit), true);
        due.is("not under that of apples", x.isUnder(tree, sourceOfApples), false);
        x.sort(0, 0, 0);
        x.parent(8, 3);
        x.parent(8, 4);
        int odd = x.type(8, -1, -1);
        due.row("thing first", Due.road(x, odd, 1), 0);
        due.row("then fruit", Due.road(x, odd, 2), 1);
        due.row("and no thing again", Due.road(x, odd, 3));
    }

    private static void promise15Cut() {
        due.part("15 road, what comes to be too deep");
        Hornbook x = bowl();
        int[] deep = new int[5];
        deep[0] = 5;
        for (int i = 1; i < 5; i++) deep[i] = x.type(5, deep[i - 1], -1);
        x.sort(1, 1, 0);
        int twice = x.type(3, 7, -1);
        int own = x.type(6, deep[3], -1);
        int ofTwo = x.type(6, deep[2], -1);
        x.parent(6, twice);
        due.row("3 deep: what it is put in is 4 deep", Due.road(x, own, 1), 3, -1);
        due.row("2 deep: all of it stays", Due.road(x, ofTwo, 1), 3, 3, 5, 5, 2);
        due.row("4 deep: a cell as a source", Due.road(x, deep[4], 1), 3, 5, 5, 5, 2);
        x.sort(1, 1, 0);
        int of4 = x.type(5, deep[3], -1);
        due.is("DEPTH", x.depth(of4), 4);
        x.sort(2, 1, 1);
        int second = x.parameter(1);
        int ofSecond = x.type(3, second, -1);
        int both = x.type(8, 7, ofSecond);
        x.sort(2, 1, 1);
        x.parent(9, both);
        int last = x.type(9, deep[3], deep[2]);
        due.row("each by itself", Due.road(x, last, 1), 8, -1, 3, 5, 5, 2);
    }

    private static void promise16() {
        due.part("16 join");
        Hornbook x = bowl();
        x.sort(0, 0, 0);
        x.parent(6, 4);
        int pear = x.type(6, -1, -1);
        int apple = 5;
        due.row("apple and pear", Due.join(x, apple, pear), 1);
        due.row("pear and apple", Due.join(x, pear, apple), 1);
        due.row("apple and fruit", Due.join(x, apple, 4), 1);
        due.row("fruit and apple", Due.join(x, 4, apple), 1);
        due.row("apple and NOTHING", Due.join(x, apple, 1), 2);
        due.row("NOTHING and apple", Due.join(x, 1, apple), 2);
        due.row("apple and ANY", Due.join(x, apple, 0), -1);
        due.row("ANY and NOTHING", Due.join(x, 0, 1), -1);
        due.row("apple and a PARAMETER", Due.join(x, apple, 6), -1);
        due.row("a PARAMETER and the OWN TYPE", Due.join(x, 6, 2), -1);
        due.row("a PARAMETER and itself", Due.join(x, 6, 6), -4);
        int source = x.type(3, apple, -1);
        due.row("apple and a source", Due.join(x, apple, source), -1);
        due.is("k 0", x.join(apple, pear, 0), 1);
        due.is("k 1", x.join(apple, pear, 1), -9);
        due.is("k -1", x.join(apple, pear, -1), -9);
        due.fails(x, "join(-1, 0, 0)", Due.NO_SUCH, () -> x.join(-1, 0, 0));
        due.fails(x, "join(0, -1, 0)", Due.NO_SUCH, () -> x.join(0, -1, 0));
        due.fails(x, "join(99, 0, -1)", Due.NO_SUCH, () -> x.join(99, 0, -1));
        due.fails(x, "join(0, 99, -1)", Due.NO_SUCH, () -> x.join(0, 99, -1));
    }

    private static void promise16Inner() {
        due.part("16 join, what is in them");
        Hornbook x = bowl();
        x.sort(0, 0, 0);
        x.parent(6, 4);
        int pear = x.type(6, -1, -1);
        int apple = 5;
        int fruit = 4;
        due.row("sources: the JOIN", Due.join(x, x.type(3, apple, -1), x.type(3, pear, -1)), 3, 1);
        int sinkOfApples = x.type(4, apple, -1);
        int sinkOfPears = x.type(4, pear, -1);
        int sinkOfFruit = x.type(4, fruit, -1);
        due.row("sinks: neither is under", Due.join(x, sinkOfApples, sinkOfPears), -1);
        due.row("sinks: one is under", Due.join(x, sinkOfApples, sinkOfFruit), 4, 2);
        int cellOfApples = x.type(5, apple, -1);
        int cellOfPears = x.type(5, pear, -1);
        int cellOfFruit = x.type(5, fruit, -1);
        due.row("cells: the next on the ROAD", Due.join(x, cellOfApples, cellOfPears), 3, 1);
        due.row("cells of fruit", Due.join(x, cellOfApples, cellOfFruit), 3, 1);
        due.row("a cell and a sink", Due.join(x, cellOfApples, sinkOfFruit), 4, 2);
        due.row("a sink and a cell", Due.join(x, sinkOfFruit, cellOfApples), 4, 2);
        x.sort(2, 2, 1);
        int boxA = x.type(7, fruit, apple);
        int boxB = x.type(7, apple, pear);
        int boxC = x.type(7, pear, pear);
        due.row("one by one", Due.join(x, boxA, boxB), 7, 2, 1);
        due.row("the other way round", Due.join(x, boxB, boxA), 7, 2, 1);
        due.row("the first ones don't go together", Due.join(x, boxB, boxC), -1);
        x.sort(1, 0, 0);
        x.sort(0, 0, 0);
        x.sort(0, 0, 0);
        int setOfFruit = x.type(8, fruit, -1);
        x.parent(9, fruit);
        x.parent(9, setOfFruit);
        x.parent(10, setOfFruit);
        x.parent(10, fruit);
        int a = x.type(9, -1, -1);
        int b = x.type(10, -1, -1);
        due.row("along the ROAD of the first", Due.join(x, a, b), 1);
        due.row("along the ROAD of the other", Due.join(x, b, a), 8, 1);
        // each is UNDER the other one, but they are not the SAME
        x.sort(1, 1, 0);
        int nextApple = x.type(5, apple, -1);
        due.row("the SAME", Due.join(x, cellOfApples, nextApple), 5, 2);
    }

    private static void promise16NotCut() {
        due.part("16 join, not cut");
        Hornbook x = bowl();
        int[] deep = new int[5];
        deep[0] = 3;
        for (int i = 1; i < 5; i++) deep[i] = x.type(3, deep[i - 1], -1);
        x.sort(0, 0, 0);
        x.sort(0, 0, 0);
        x.parent(6, deep[4]);
        x.parent(7, deep[4]);
        int a = x.type(6, -1, -1);
        int b = x.type(7, -1, -1);
        int ofA = x.type(3, a, -1);
        int ofB = x.type(3, b, -1);
        due.row("5 deep", Due.join(x, ofA, ofB), 3, 3, 3, 3, 3, 0);
        x.value(ofA);
        x.value(ofB);
        x.either(0, 1);
        due.row("an EITHER", Due.line(x, 2), 3, 3, 3, 3, 3, 0);
        due.is("its DEPTH", x.meanDepth(), 7.0 / 3);
        // put in at the top it stays, put in a SORT it is ANY
        int open = 6;
        x.method(3, 0, -1, -1, open, false);
        x.method(3, 1, -1, -1, 7, false);
        x.method(3, 2, 2, -1, 2, true);
        int wrapped = x.type(3, 2, -1);
        x.method(3, 3, 2, -1, wrapped, true);
        x.call(2, 0, -1, -1);
        x.call(2, 1, -1, -1);
        x.call(2, 2, 2, -1);
        x.call(2, 3, 2, -1);
        due.row("what is in it", Due.line(x, 3), 3, 3, 3, 3, 0);
        due.row("what is in it, in a SORT", Due.line(x, 4), 3, -1);
        due.row("the OWN TYPE", Due.line(x, 5), 3, 3, 3, 3, 3, 0);
        due.row("the OWN TYPE in a SORT", Due.line(x, 6), 3, -1);
        due.row("own()", Due.own(x, 6), 3, 3, 3, 3, 3, 0);
    }
}
