/** Promises 22 to 26: what is wrong in what was told. */
public final class FaultsTest {
    private static final Due due = new Due();

    public static void main(String[] args) {
        promise22();
        promise23();
        promise24();
        promise25();
        promise25Mixed();
        promise26Parents();
        promise26Methods();
        promise26Order();
        due.end();
    }

    /** SORTS 0 thing, 1 fruit, 2 apple with the TYPES 3 to 5, in a row from PARENT to child. */
    private static Hornbook fruits() {
        Hornbook x = new Hornbook();
        for (int i = 0; i < 3; i++) {
            x.sort(0, 0, 0);
            x.type(i, -1, -1);
            if (i > 0) x.parent(i, 2 + i);
        }
        return x;
    }

    private static void promise22() {
        due.part("22 faults");
        Hornbook x = fruits();
        due.is("none told", x.faults(), 0);
        int thing = x.value(3);
        int apple = x.value(5);
        x.either(thing, apple);
        due.is("VALUE and EITHER have none", x.faults(), 0);
        int lost = x.call(thing, 0, -1, -1);
        due.is("a CALL", x.faults(), 1);
        x.call(lost, 0, -1, -1);
        x.call(thing, 0, lost, -1);
        x.call(thing, 0, thing, lost);
        x.either(lost, thing);
        x.as(lost, 5);
        due.is("none for those that have one in them", x.faults(), 1);
        x.as(thing, 5);
        due.is("AS", x.faults(), 2);
        x.as(apple, 3);
        due.is("AS, UNDER it", x.faults(), 2);
        x.method(0, 0, -1, -1, 3, false);
        // what was lost is found: now the CALLS that are given it, and its AS, have each one of their own
        due.is("told later", x.faults(), 4);
        due.is("asked again", x.faults(), 4);
    }

    private static void promise23() {
        due.part("23 ofFault");
        Hornbook x = fruits();
        x.method(0, 0, -1, -1, 3, false);
        x.method(0, 1, 3, 4, 3, false);
        x.method(0, 1, 4, 3, 3, false);
        int thing = x.value(3);
        int apple = x.value(5);
        x.call(thing, 0, -1, -1);
        x.call(thing, 9, -1, -1);
        x.call(thing, 1, thing, thing);
        x.call(thing, 1, apple, apple);
        int wrong = x.as(thing, 4);
        x.as(wrong, 5);
        due.is("faults()", x.faults(), 5);
        int[][] all = {{3, 1}, {4, 2}, {5, 3}, {6, 4}, {7, 4}};
        for (int f = 0; f < 5; f++) {
            due.is("ofFault(" + f + ", 0)", x.ofFault(f, 0), all[f][0]);
            due.is("ofFault(" + f + ", 1)", x.ofFault(f, 1), all[f][1]);
        }
        due.fails(x, "ofFault(-1, 0)", Due.NO_SUCH, () -> x.ofFault(-1, 0));
        due.fails(x, "ofFault(5, 0)", Due.NO_SUCH, () -> x.ofFault(5, 0));
        due.fails(x, "ofFault(greatest, 0)", Due.NO_SUCH, () -> x.ofFault(Integer.MAX_VALUE, 0));
        due.fails(x, "ofFault(5, 2)", Due.NO_SUCH, () -> x.ofFault(5, 2));
        due.fails(x, "ofFault(4, 2)", Due.NO_USE, () -> x.ofFault(4, 2));
        due.fails(x, "ofFault(0, -1)", Due.NO_USE, () -> x.ofFault(0, -1));
        Hornbook y = new Hornbook();
        due.fails(y, "without any", Due.NO_SUCH, () -> y.ofFault(0, 0));
    }

    private static void promise24() {
        due.part("24 isFaulty");
        Hornbook x = fruits();
        x.method(0, 0, -1, -1, 3, false);
        x.method(0, 0, 3, -1, 3, false);
        x.method(0, 0, 3, 3, 3, false);
        int thing = x.value(3);
        int sound = x.call(thing, 0, thing, sound(x));
        int wrong = x.as(thing, 5);
        due.is("a VALUE", x.isFaulty(thing), false);
        due.is("a sound CALL", x.isFaulty(sound), false);
        due.is("AS with a FAULT", x.isFaulty(wrong), true);
        due.is("a CALL of it", x.isFaulty(x.call(wrong, 0, -1, -1)), true);
        due.is("a CALL that is given it first", x.isFaulty(x.call(thing, 0, wrong, thing)), true);
        due.is("a CALL that is given it second", x.isFaulty(x.call(thing, 0, thing, wrong)), true);
        int first = x.either(wrong, thing);
        due.is("EITHER, first", x.isFaulty(first), true);
        due.is("EITHER, second", x.isFaulty(x.either(thing, wrong)), true);
        due.is("AS of it, with none of its own", x.isFaulty(x.as(wrong, 3)), true);
        due.is("deeper in it", x.isFaulty(x.either(thing, x.as(first, 0))), true);
        due.is("only one FAULT is noted", x.faults(), 1);
        due.fails(x, "isFaulty(-1)", Due.NO_SUCH, () -> x.isFaulty(-1));
        due.fails(x, "isFaulty(99)", Due.NO_SUCH, () -> x.isFaulty(99));
    }

    private static int sound(Hornbook x) {
        return x.as(x.value(5), 4);
    }

    /** SORTS 0 source OUT, 1 sink IN, 2 cell FIXED, of PARAMETER 0 the TYPES 4 to 6; 3 is PARAMETER 0. */
    private static Hornbook places() {
        Hornbook x = new Hornbook();
        x.sort(1, 1, 0);
        x.sort(1, 2, 0);
        x.sort(1, 0, 0);
        x.parameter(0);
        for (int i = 0; i < 3; i++) x.type(i, 3, -1);
        return x;
    }

    private static void promise25() {
        due.part("25 flaws");
        Hornbook x = places();
        due.is("none told", x.flaws(), 0);
        x.sort(1, 1, 0);
        x.parent(3, 4);
        due.is("an OUT one at an OUT place", x.flaws(), 0);
        x.parent(3, 5);
        due.is("an OUT one at an IN place", x.flaws(), 1);
        x.method(3, 0, 3, -1, 3, false);
        due.is("an OUT one GIVEN", x.flaws(), 2);
        x.method(3, 0, -1, -1, 3, false);
        due.is("an OUT one as the RESULT", x.flaws(), 2);
        x.method(2, 0, 3, 6, 6, false);
        due.is("a FIXED one may stand anywhere", x.flaws(), 2);
        x.value(0);
        x.as(0, 1);
        due.is("FAULTS are no FLAWS", x.flaws(), 2);
        x.sort(0, 0, 0);
        due.is("a new SORT has none", x.flaws(), 2);
    }

    private static void promise25Mixed() {
        due.part("25 flaws, the way up");
        Hornbook x = fruits();
        x.sort(1, 1, 0);
        int sourceOfFruit = x.type(3, 4, -1);
        int sourceOfApples = x.type(3, 5, -1);
        x.sort(0, 0, 0);
        x.parent(4, sourceOfFruit);
        x.parent(4, sourceOfFruit);
        due.is("twice the SAME", x.flaws(), 0);
        int bin = x.type(4, -1, -1);
        x.sort(0, 0, 0);
        x.parent(5, bin);
        x.parent(5, sourceOfApples);
        due.is("two that are not the SAME", x.flaws(), 1);
        due.is("of SORT 5", x.ofFlaw(0, 0), 5);
        due.is("code 2", x.ofFlaw(0, 1), 2);
        due.is("no place", x.ofFlaw(0, 2), -1);
        int tree = x.type(5, -1, -1);
        x.sort(0, 0, 0);
        x.parent(6, tree);
        due.is("those below it, too", x.flaws(), 2);
        due.is("of SORT 6", x.ofFlaw(1, 0), 6);
        // more than one pair is one FLAW all the same
        x.sort(1, 1, 0);
        int secondOfFruit = x.type(7, 4, -1);
        int secondOfApples = x.type(7, 5, -1);
        x.sort(0, 0, 0);
        x.parent(8, sourceOfFruit);
        x.parent(8, secondOfFruit);
        int left = x.type(8, -1, -1);
        x.sort(0, 0, 0);
        x.parent(9, sourceOfApples);
        x.parent(9, secondOfApples);
        int right = x.type(9, -1, -1);
        x.sort(0, 0, 0);
        x.parent(10, left);
        x.parent(10, right);
        due.is("two pairs are one FLAW", x.flaws(), 3);
        // with its own PARAMETERS in it, which are not the SAME
        x.sort(2, 1, 1);
        int first = x.parameter(0);
        int second = x.parameter(1);
        x.parent(11, x.type(3, first, -1));
        x.parent(11, x.type(3, second, -1));
        due.is("of both its PARAMETERS", x.flaws(), 4);
        due.is("of SORT 11", x.ofFlaw(3, 0), 11);
    }

    private static void promise26Parents() {
        due.part("26 ofFlaw, PARENTS");
        // a SORT whose PARAMETER is so, with a PARENT in which it stands so
        boolean[][] isBad = {
            {false, false, false, false, false, false},
            {false, true, true, true, false, true},
            {true, false, true, false, true, true},
        };
        for (int how = 0; how < 3; how++) {
            Hornbook x = places();
            int[] parents = {4, 5, 6, x.type(0, 5, -1), x.type(1, 5, -1), x.type(2, 4, -1)};
            int flaws = 0;
            for (int p = 0; p < 6; p++) {
                int sort = x.sort(1, how, 0);
                x.parent(sort, parents[p]);
                if (isBad[how][p]) {
                    due.is(how + " in " + p + " is a FLAW", x.flaws(), flaws + 1);
                    if (x.flaws() > flaws) {
                        due.is("its SORT", x.ofFlaw(flaws, 0), sort);
                        due.is("its code", x.ofFlaw(flaws, 1), 1);
                        due.is("its place", x.ofFlaw(flaws, 2), 0);
                    }
                    flaws++;
                } else {
                    due.is(how + " in " + p + " is no FLAW", x.flaws(), flaws);
                }
            }
        }
        Hornbook x = places();
        int inFixed = x.type(2, 5, -1);
        int fixedInward = x.type(1, 6, -1);
        int second = x.parameter(1);
        int outOfSecond = x.type(0, second, -1);
        x.sort(1, 2, 0);
        x.parent(3, inFixed);
        x.parent(3, fixedInward);
        due.is("what stands in one that is FIXED", x.flaws(), 2);
        due.is("the place of the second PARENT", x.ofFlaw(1, 2), 1);
        x.sort(2, 1, 2);
        x.parent(4, outOfSecond);
        due.is("the second PARAMETER is IN", x.flaws(), 3);
        x.sort(2, 2, 1);
        x.parent(5, outOfSecond);
        due.is("the second PARAMETER is OUT", x.flaws(), 3);
    }

    private static void promise26Methods() {
        due.part("26 ofFlaw, METHODS");
        Hornbook x = places();
        int second = x.parameter(1);
        int sinkOfSecond = x.type(1, second, -1);
        int cellOfSecond = x.type(2, second, -1);
        int sort = x.sort(2, 1, 2);
        int[] bad = {
            x.method(sort, 0, 3, -1, 0, false),
            x.method(sort, 0, 0, 3, 0, false),
            x.method(sort, 0, 4, -1, 0, false),
            x.method(sort, 0, 6, -1, 0, false),
            x.method(sort, 0, -1, -1, 5, false),
            x.method(sort, 0, -1, -1, 6, false),
            x.method(sort, 0, -1, -1, second, false),
            x.method(sort, 0, sinkOfSecond, -1, 0, false),
            x.method(sort, 0, cellOfSecond, 3, second, false),
        };
        x.method(sort, 0, 5, second, 3, false);
        x.method(sort, 0, second, 5, sinkOfSecond, false);
        x.method(sort, 0, 2, -1, 2, true);
        x.method(sort, 0, 0, 1, 4, false);
        due.is("flaws()", x.flaws(), bad.length);
        for (int f = 0; f < bad.length; f++) {
            due.is("SORT of " + f, x.ofFlaw(f, 0), sort);
            due.is("code of " + f, x.ofFlaw(f, 1), 3);
            due.is("METHOD of " + f, x.ofFlaw(f, 2), bad[f]);
        }
        due.fails(x, "ofFlaw(-1, 0)", Due.NO_SUCH, () -> x.ofFlaw(-1, 0));
        due.fails(x, "ofFlaw(9, 0)", Due.NO_SUCH, () -> x.ofFlaw(9, 0));
        due.fails(x, "ofFlaw(9, 3)", Due.NO_SUCH, () -> x.ofFlaw(9, 3));
        due.fails(x, "ofFlaw(8, 3)", Due.NO_USE, () -> x.ofFlaw(8, 3));
        due.fails(x, "ofFlaw(0, -1)", Due.NO_USE, () -> x.ofFlaw(0, -1));
    }

    private static void promise26Order() {
        due.part("26 ofFlaw, in order");
        Hornbook x = places();
        x.sort(1, 1, 0);
        x.sort(1, 1, 0);
        // SORT 4 is told before SORT 3, and its METHODS before those of that
        x.method(4, 0, 3, -1, 0, false);
        x.method(3, 0, 3, -1, 0, false);
        x.method(4, 0, 3, 3, 0, false);
        int sinkOfSources = x.type(1, 4, -1);
        x.parent(4, sinkOfSources);
        x.parent(4, 5);
        x.parent(3, 6);
        int[][] all = {{3, 1, 0}, {3, 3, 1}, {4, 1, 0}, {4, 1, 1}, {4, 2, -1}, {4, 3, 0}, {4, 3, 2}};
        due.is("flaws()", x.flaws(), all.length);
        for (int f = 0; f < all.length; f++) {
            for (int what = 0; what < 3; what++) {
                due.is("ofFlaw(" + f + ", " + what + ")", x.ofFlaw(f, what), all[f][what]);
            }
        }
    }
}
