/** Promises 17 to 21: the TYPES of EXPRESSIONS, and which METHOD is SEEN, TAKES, is CHOSEN. */
public final class ExpressionsTest {
    private static final Due due = new Due();

    public static void main(String[] args) {
        promise17();
        promise17Faulty();
        promise18();
        promise19();
        promise20();
        promise20Better();
        promise20OnTheRoad();
        promise21();
        promise21Hints();
        promise21Deep();
        due.end();
    }

    /** SORTS 0 thing, 1 fruit, 2 apple, 3 pear with the TYPES 3 to 6; 4 source OUT; PARAMETER 0 as TYPE 7. */
    private static Hornbook trees() {
        Hornbook x = new Hornbook();
        for (int i = 0; i < 4; i++) {
            x.sort(0, 0, 0);
            x.type(i, -1, -1);
        }
        x.sort(1, 1, 0);
        x.parent(1, 3);
        x.parent(2, 4);
        x.parent(3, 4);
        x.parameter(0);
        return x;
    }

    private static void promise17() {
        due.part("17 line");
        Hornbook x = trees();
        int sourceOfApples = x.type(4, 5, -1);
        int sourceOfOpen = x.type(4, 7, -1);
        x.method(4, 0, -1, -1, 7, false);
        x.method(4, 1, 7, -1, sourceOfOpen, false);
        int apples = x.value(sourceOfApples);
        int pear = x.value(6);
        int apple = x.call(apples, 0, -1, -1);
        int either = x.either(apple, pear);
        int same = x.call(apples, 1, apple, -1);
        int as = x.as(pear, 3);
        due.row("VALUE", Due.line(x, apples), 4, 2);
        due.row("CALL, a PARAMETER", Due.line(x, apple), 2);
        due.row("EITHER", Due.line(x, either), 1);
        due.row("CALL, a PARAMETER in it", Due.line(x, same), 4, 2);
        due.row("AS", Due.line(x, as), 0);
        due.is("k 0", x.line(apples, 0), 4);
        due.is("k 1", x.line(apples, 1), 2);
        due.is("k 2", x.line(apples, 2), -9);
        due.is("k -1", x.line(apples, -1), -9);
        due.is("k greatest", x.line(apples, Integer.MAX_VALUE), -9);
        due.is("k least", x.line(apples, Integer.MIN_VALUE), -9);
        due.fails(x, "line(-1, 0)", Due.NO_SUCH, () -> x.line(-1, 0));
        due.fails(x, "line(6, 0)", Due.NO_SUCH, () -> x.line(6, 0));
        // with a PARENT that is told later, the JOIN is another one
        x.sort(0, 0, 0);
        int seed = x.type(5, -1, -1);
        int e = x.value(seed);
        int late = x.either(e, pear);
        due.row("EITHER before", Due.line(x, late), -1);
        x.parent(5, 4);
        due.row("EITHER after", Due.line(x, late), 1);
    }

    private static void promise17Faulty() {
        due.part("17 line, with a FAULT in it");
        Hornbook x = trees();
        x.method(0, 0, -1, -1, 3, false);
        int apple = x.value(5);
        int lost = x.call(apple, 9, -1, -1);
        int after = x.call(lost, 0, -1, -1);
        int given = x.call(apple, 0, lost, -1);
        int either = x.either(apple, lost);
        int wrong = x.as(apple, 6);
        int cast = x.as(lost, 6);
        int called = x.call(wrong, 0, -1, -1);
        due.row("a CALL with a FAULT", Due.line(x, lost), -2);
        due.row("a CALL of it", Due.line(x, after), -2);
        due.row("a CALL that is given it", Due.line(x, given), -2);
        due.row("EITHER of it", Due.line(x, either), 2);
        due.row("AS with a FAULT", Due.line(x, wrong), 3);
        due.row("AS of it", Due.line(x, cast), 3);
        due.row("a CALL of AS with a FAULT", Due.line(x, called), -2);
    }

    private static void promise18() {
        due.part("18 seen");
        Hornbook x = trees();
        x.method(0, 0, -1, -1, 3, false);
        x.method(1, 0, 3, -1, 3, false);
        x.method(2, 0, 3, 3, 3, false);
        x.method(3, 0, -1, -1, 3, false);
        x.method(2, 1, -1, -1, 3, false);
        int thing = x.value(3);
        int apple = x.value(5);
        int any = x.value(0);
        int none = x.value(1);
        due.is("on the whole ROAD, whatever they TAKE", x.seen(x.call(apple, 0, -1, -1)), 3);
        due.is("of the first one", x.seen(x.call(thing, 0, -1, -1)), 1);
        due.is("of another NAME", x.seen(x.call(apple, 1, -1, -1)), 1);
        due.is("of a NAME that none has", x.seen(x.call(apple, 2, -1, -1)), 0);
        due.is("not from below", x.seen(x.call(thing, 1, -1, -1)), 0);
        due.is("ANY sees none", x.seen(x.call(any, 0, -1, -1)), 0);
        due.is("NOTHING sees none", x.seen(x.call(none, 0, -1, -1)), 0);
        due.is("a VALUE", x.seen(apple), 0);
        due.is("EITHER", x.seen(x.either(apple, thing)), 0);
        int wrong = x.as(thing, 5);
        due.is("AS", x.seen(wrong), 0);
        due.is("of one with a FAULT in it", x.seen(x.call(wrong, 0, -1, -1)), 0);
        due.is("that is given one with a FAULT in it", x.seen(x.call(apple, 0, apple, wrong)), 0);
        due.is("of a sound AS", x.seen(x.call(x.as(apple, 4), 0, -1, -1)), 2);
        due.fails(x, "seen(-1)", Due.NO_SUCH, () -> x.seen(-1));
        due.fails(x, "seen(40)", Due.NO_SUCH, () -> x.seen(x.many(3)));
    }

    private static void promise19() {
        due.part("19 taking");
        Hornbook x = trees();
        x.method(0, 0, -1, -1, 3, false);
        x.method(0, 0, 3, -1, 3, false);
        x.method(0, 0, 4, -1, 3, false);
        x.method(0, 0, 5, -1, 3, false);
        x.method(0, 0, 4, 5, 3, false);
        x.method(0, 0, 5, 4, 3, false);
        int thing = x.value(3);
        int fruit = x.value(4);
        int apple = x.value(5);
        int none = x.value(1);
        due.is("given nothing", x.taking(x.call(apple, 0, -1, -1)), 1);
        due.is("given a thing", x.taking(x.call(apple, 0, thing, -1)), 1);
        due.is("given a fruit", x.taking(x.call(apple, 0, fruit, -1)), 2);
        due.is("given an apple", x.taking(x.call(apple, 0, apple, -1)), 3);
        due.is("given NOTHING", x.taking(x.call(apple, 0, none, -1)), 3);
        due.is("given two things", x.taking(x.call(apple, 0, thing, thing)), 0);
        due.is("given a fruit and an apple", x.taking(x.call(apple, 0, fruit, apple)), 1);
        due.is("given two apples", x.taking(x.call(apple, 0, apple, apple)), 2);
        due.is("a VALUE", x.taking(apple), 0);
        int lost = x.call(apple, 5, -1, -1);
        due.is("none SEEN", x.taking(lost), 0);
        due.is("of one with a FAULT in it", x.taking(x.call(lost, 0, -1, -1)), 0);
        due.is("that is given one with a FAULT in it", x.taking(x.call(apple, 0, lost, -1)), 0);
        due.fails(x, "taking(-1)", Due.NO_SUCH, () -> x.taking(-1));
        due.fails(x, "taking(99)", Due.NO_SUCH, () -> x.taking(99));
    }

    private static void promise20() {
        due.part("20 chosen");
        Hornbook x = trees();
        int thingTaker = x.method(0, 0, 3, -1, 3, false);
        int fruitTaker = x.method(0, 0, 4, -1, 4, false);
        int appleAndFruit = x.method(0, 1, 5, 4, 3, false);
        int fruitAndApple = x.method(0, 1, 4, 5, 3, false);
        int apple = x.value(5);
        int thing = x.value(3);
        int fruit = x.value(4);
        due.is("the BETTER one", x.chosen(x.call(apple, 0, apple, -1)), fruitTaker);
        due.is("the only one that TAKES it", x.chosen(x.call(apple, 0, thing, -1)), thingTaker);
        due.is("none TAKES it", x.chosen(x.call(apple, 0, thing, thing)), -1);
        due.is("neither is BETTER", x.chosen(x.call(apple, 1, apple, apple)), -1);
        due.is("only the first", x.chosen(x.call(apple, 1, apple, fruit)), appleAndFruit);
        due.is("only the second", x.chosen(x.call(apple, 1, fruit, apple)), fruitAndApple);
        int last = x.call(apple, 1, apple, apple);
        int both = x.method(0, 1, 5, 5, 3, false);
        due.is("BETTER than both", x.chosen(last), both);
        x.method(0, 1, 5, 5, 3, false);
        due.is("two alike", x.chosen(last), -1);
        due.is("a VALUE", x.chosen(apple), -1);
        due.is("of one with a FAULT in it", x.chosen(x.call(last, 0, apple, -1)), -1);
        due.is("given one with a FAULT in it", x.chosen(x.call(apple, 0, last, -1)), -1);
        due.fails(x, "chosen(-1)", Due.NO_SUCH, () -> x.chosen(-1));
        due.fails(x, "chosen(99)", Due.NO_SUCH, () -> x.chosen(99));
    }

    private static void promise20Better() {
        due.part("20 chosen, of three");
        Hornbook x = trees();
        // the second TAKES both the first and the third one's, but only a TYPE between them is told last
        x.method(0, 0, 3, 3, 3, false);
        int middle = x.method(0, 0, 4, 3, 3, false);
        x.method(0, 1, 4, 3, 3, false);
        x.method(0, 1, 3, 4, 3, false);
        x.method(0, 1, 3, 3, 3, false);
        int apple = x.value(5);
        due.is("one of two that go one under the other", x.chosen(x.call(apple, 0, apple, apple)), middle);
        int open = x.call(apple, 1, apple, apple);
        due.is("BETTER than one is not enough", x.chosen(open), -1);
        due.is("all three TAKE it", x.taking(open), 3);
        x.method(0, 2, 3, -1, 3, false);
        int special = x.method(0, 2, 0, -1, 3, false);
        int any = x.value(0);
        due.is("ANY for ANY", x.chosen(x.call(apple, 2, any, -1)), special);
    }

    private static void promise20OnTheRoad() {
        due.part("20 chosen, on the ROAD");
        Hornbook x = trees();
        int ofThing = x.method(0, 0, -1, -1, 3, false);
        int ofFruit = x.method(1, 0, -1, -1, 4, false);
        int wide = x.method(2, 1, 3, -1, 3, false);
        int narrow = x.method(0, 1, 4, -1, 3, false);
        int apple = x.value(5);
        int thing = x.value(3);
        int call = x.call(apple, 0, -1, -1);
        due.is("the earlier one", x.chosen(call), ofFruit);
        due.row("its RESULT", Due.line(x, call), 1);
        due.is("the only one", x.chosen(x.call(thing, 0, -1, -1)), ofThing);
        due.is("UNDER counts before the ROAD", x.chosen(x.call(apple, 1, apple, -1)), narrow);
        due.is("the wide one TAKES more", x.chosen(x.call(apple, 1, thing, -1)), wide);
        // the ROAD goes along the first PARENT first
        x.sort(0, 0, 0);
        x.sort(0, 0, 0);
        x.sort(0, 0, 0);
        int left = x.type(5, -1, -1);
        int right = x.type(6, -1, -1);
        int both = x.type(7, -1, -1);
        x.parent(7, right);
        x.parent(7, left);
        x.parent(6, 3);
        int ofLeft = x.method(5, 2, -1, -1, 3, false);
        int e = x.value(both);
        due.is("the one there is", x.chosen(x.call(e, 2, -1, -1)), ofLeft);
        int highUp = x.method(0, 2, -1, -1, 3, false);
        due.is("the whole ROAD of the first PARENT comes before the second one", x.chosen(x.call(e, 2, -1, -1)), highUp);
    }

    private static void promise21() {
        due.part("21 own");
        Hornbook x = trees();
        int ofOwn = x.type(4, 2, -1);
        int sourceOfApples = x.type(4, 5, -1);
        x.method(0, 0, 2, -1, ofOwn, true);
        x.method(0, 1, 2, 2, 2, true);
        x.method(0, 2, 3, -1, 3, true);
        x.method(0, 3, -1, -1, 2, true);
        x.method(0, 4, 3, -1, 3, false);
        x.method(0, 5, 2, 3, 2, true);
        int thing = x.value(3);
        int apple = x.value(5);
        int pear = x.value(6);
        int sources = x.value(sourceOfApples);
        int one = x.call(thing, 0, apple, -1);
        due.row("what it is given", Due.own(x, one), 2);
        due.row("in the RESULT", Due.line(x, one), 4, 2);
        int nested = x.call(thing, 0, sources, -1);
        due.row("a SORT with one in it", Due.own(x, nested), 4, 2);
        due.row("its RESULT", Due.line(x, nested), 4, 4, 2);
        due.row("the first that all are UNDER", Due.own(x, x.call(thing, 1, apple, thing)), 0);
        due.row("the first of both", Due.own(x, x.call(thing, 1, thing, apple)), 0);
        due.row("none that all are UNDER", Due.own(x, x.call(thing, 1, apple, pear)), -1);
        int noHint = x.call(thing, 2, apple, -1);
        due.row("GENERAL without a HINT", Due.own(x, noHint), -1);
        due.row("GENERAL, given nothing", Due.own(x, x.call(thing, 3, -1, -1)), -1);
        due.row("its RESULT", Due.line(x, x.call(thing, 3, -1, -1)), -1);
        due.row("not GENERAL", Due.own(x, x.call(thing, 4, apple, -1)));
        int refused = x.call(thing, 5, apple, sources);
        due.row("GENERAL, but doesn't TAKE these", Due.own(x, refused));
        due.row("none CHOSEN", Due.own(x, x.call(thing, 9, -1, -1)));
        due.row("a VALUE", Due.own(x, apple));
        due.is("k 0", x.own(nested, 0), 4);
        due.is("k 1", x.own(nested, 1), 2);
        due.is("k 2", x.own(nested, 2), -9);
        due.is("k -1", x.own(nested, -1), -9);
        due.fails(x, "own(-1, 0)", Due.NO_SUCH, () -> x.own(-1, 0));
        due.fails(x, "own(99, 0)", Due.NO_SUCH, () -> x.own(99, 0));
    }

    private static void promise21Hints() {
        due.part("21 own, HINTS");
        Hornbook x = trees();
        int sourceOfOwn = x.type(4, 2, -1);
        int sourceOfPears = x.type(4, 6, -1);
        x.sort(0, 0, 0);
        int orchard = x.type(5, -1, -1);
        x.parent(5, sourceOfPears);
        x.sort(1, 2, 0);
        int sinkOfOwn = x.type(6, 2, -1);
        int sinkOfFruit = x.type(6, 4, -1);
        int sinkOfThings = x.type(6, 3, -1);
        x.method(0, 0, sourceOfOwn, -1, 2, true);
        x.method(0, 1, sourceOfOwn, sinkOfOwn, 2, true);
        x.method(0, 2, sourceOfOwn, 2, 2, true);
        int thing = x.value(3);
        int orchards = x.value(orchard);
        int fruits = x.value(sinkOfFruit);
        int things = x.value(sinkOfThings);
        int apple = x.value(5);
        due.row("from the ROAD of what it is given", Due.own(x, x.call(thing, 0, orchards, -1)), 3);
        int wrong = x.call(thing, 0, apple, -1);
        due.is("none of the SORT on the ROAD", x.taking(wrong), 0);
        due.is("it is SEEN", x.seen(wrong), 1);
        due.row("of both: pear and fruit", Due.own(x, x.call(thing, 1, orchards, fruits)), 1);
        int wide = x.call(thing, 1, orchards, things);
        due.row("of both: pear and thing", Due.own(x, wide), 0);
        due.is("and it TAKES them", x.taking(wide), 1);
        due.row("pear and apple: ANY", Due.own(x, x.call(thing, 2, orchards, apple)), -1);
        due.row("pear and NOTHING", Due.own(x, x.call(thing, 2, orchards, x.value(1))), 3);
        due.row("NOTHING: no HINT", Due.own(x, x.call(thing, 0, x.value(1), -1)), -1);
        // its SORT's PARAMETER is put in before: HINTS come from what is left
        x.sort(2, 1, 1);
        int ofBoth = x.type(7, 7, 2);
        x.sort(1, 1, 0);
        x.method(8, 0, ofBoth, -1, 2, true);
        int shelfOfApples = x.value(x.type(8, 5, -1));
        int pair = x.value(x.type(7, 5, 6));
        int other = x.value(x.type(7, 6, 6));
        due.row("the second one is the HINT", Due.own(x, x.call(shelfOfApples, 0, pair, -1)), 3);
        due.is("the first one must be UNDER", x.taking(x.call(shelfOfApples, 0, other, -1)), 0);
    }

    private static void promise21Deep() {
        due.part("21 own, what comes to be too deep");
        Hornbook x = trees();
        int[] deep = new int[5];
        deep[0] = 5;
        for (int i = 1; i < 5; i++) deep[i] = x.type(4, deep[i - 1], -1);
        int ofOwn = x.type(4, 2, -1);
        int twice = x.type(4, ofOwn, -1);
        x.method(0, 0, 2, -1, twice, true);
        int thing = x.value(3);
        int two = x.call(thing, 0, x.value(deep[2]), -1);
        int three = x.call(thing, 0, x.value(deep[3]), -1);
        int four = x.call(thing, 0, x.value(deep[4]), -1);
        due.row("2 deep", Due.line(x, two), 4, 4, 4, 4, 2);
        due.row("3 deep: what it is in is ANY", Due.line(x, three), 4, -1);
        due.row("4 deep: it is ANY itself, and what it is in stays", Due.line(x, four), 4, 4, -1);
        due.row("own() is not cut", Due.own(x, four), 4, 4, 4, 4, 2);
        // first the PARAMETERS everywhere: what the OWN TYPE stands in may be gone before it is found
        x.sort(2, 1, 1);
        int mixed = x.type(5, 7, 2);
        int sourceOfMixed = x.type(4, mixed, -1);
        x.sort(1, 1, 0);
        x.method(6, 0, sourceOfMixed, -1, 2, true);
        int shelf = x.value(x.type(6, deep[3], -1));
        int low = x.value(x.type(6, deep[2], -1));
        int taken = x.value(x.type(4, x.type(5, deep[1], 6), -1));
        int gone = x.call(shelf, 0, taken, -1);
        due.row("no HINT is left", Due.own(x, gone), -1);
        due.is("but it TAKES it", x.taking(gone), 1);
        int kept = x.call(low, 0, taken, -1);
        due.is("a HINT is left, but it doesn't TAKE it", x.taking(kept), 0);
        due.is("it is SEEN", x.seen(kept), 1);
    }
}
