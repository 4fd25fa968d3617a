/** Promises 27 to 32: what would be, the mean DEPTH, and the checksum. */
public final class WouldTest {
    private static final Due due = new Due();

    public static void main(String[] args) {
        promise27();
        promise27Refused();
        promise28();
        promise29();
        promise29Refused();
        promise30();
        promise31();
        promise32();
        promise32Told();
        due.end();
    }

    /** SORTS 0 thing, 1 fruit, 2 apple with the TYPES 3 to 5; 3 source OUT; PARAMETER 0 is TYPE 6. */
    private static Hornbook fruits() {
        Hornbook x = new Hornbook();
        for (int i = 0; i < 3; i++) {
            x.sort(0, 0, 0);
            x.type(i, -1, -1);
            if (i > 0) x.parent(i, 2 + i);
        }
        x.sort(1, 1, 0);
        x.parameter(0);
        return x;
    }

    private static void promise27() {
        due.part("27 wouldChoose");
        Hornbook x = fruits();
        int sourceOfApples = x.type(3, 5, -1);
        x.method(0, 0, -1, -1, 3, false);
        x.method(0, 1, 3, -1, 3, false);
        x.method(1, 1, 4, -1, 3, false);
        x.method(0, 2, 3, 4, 3, false);
        x.method(0, 2, 4, 3, 3, false);
        x.method(3, 3, 6, -1, 3, false);
        x.method(3, 3, 2, -1, 3, true);
        long before = x.digest();
        due.is("with nothing given", x.wouldChoose(5, 0, -1, -1), 0);
        due.is("the BETTER one", x.wouldChoose(5, 1, 5, -1), 2);
        due.is("the only one", x.wouldChoose(5, 1, 3, -1), 1);
        due.is("the only one SEEN", x.wouldChoose(3, 1, 5, -1), 1);
        due.is("two", x.wouldChoose(5, 2, 4, 3), 4);
        due.is("FAULT 1", x.wouldChoose(5, 9, -1, -1), -1);
        due.is("FAULT 1 of ANY", x.wouldChoose(0, 0, -1, -1), -1);
        due.is("FAULT 1 of NOTHING", x.wouldChoose(1, 0, -1, -1), -1);
        due.is("FAULT 2", x.wouldChoose(5, 1, -1, -1), -2);
        due.is("FAULT 2, ANY", x.wouldChoose(5, 1, 0, -1), -2);
        due.is("FAULT 3", x.wouldChoose(5, 2, 5, 5), -3);
        due.is("FAULT 3, NOTHING", x.wouldChoose(5, 2, 1, 1), -3);
        due.is("FAULT 3, alike as they are SEEN", x.wouldChoose(sourceOfApples, 3, 5, -1), -3);
        due.is("GENERAL", x.wouldChoose(sourceOfApples, 3, 4, -1), 6);
        due.is("nothing is changed", x.digest() - before, 0);
        due.is("no EXPRESSION is told", x.many(3), 0);
    }

    private static void promise27Refused() {
        due.part("27 wouldChoose, refused");
        Hornbook x = fruits();
        x.method(0, 0, 3, 3, 3, false);
        int open = x.type(3, 6, -1);
        int size = x.many(1);
        due.fails(x, "no TYPE -1", Due.NO_SUCH, () -> x.wouldChoose(-1, 0, -1, -1));
        due.fails(x, "no TYPE", Due.NO_SUCH, () -> x.wouldChoose(size, 0, -1, -1));
        due.fails(x, "given -2", Due.NO_SUCH, () -> x.wouldChoose(3, 0, -2, -1));
        due.fails(x, "given what there is not", Due.NO_SUCH, () -> x.wouldChoose(3, 0, size, -1));
        due.fails(x, "given -2, second", Due.NO_SUCH, () -> x.wouldChoose(3, 0, 3, -2));
        due.fails(x, "given what there is not, second", Due.NO_SUCH, () -> x.wouldChoose(3, 0, -1, size));
        due.fails(x, "no TYPE, and a wrong NAME", Due.NO_SUCH, () -> x.wouldChoose(3, 10, size, -1));
        due.fails(x, "NAME 10", Due.NO_USE, () -> x.wouldChoose(3, 10, -1, -1));
        due.fails(x, "NAME -1", Due.NO_USE, () -> x.wouldChoose(3, -1, -1, -1));
        due.fails(x, "the second without the first", Due.NO_USE, () -> x.wouldChoose(3, 0, -1, 3));
        due.fails(x, "of the OWN TYPE", Due.NO_USE, () -> x.wouldChoose(2, 0, -1, -1));
        due.fails(x, "of a PARAMETER", Due.NO_USE, () -> x.wouldChoose(6, 0, -1, -1));
        due.fails(x, "of an open one", Due.NO_USE, () -> x.wouldChoose(open, 0, -1, -1));
        due.fails(x, "given an open one", Due.NO_USE, () -> x.wouldChoose(3, 0, open, -1));
        due.fails(x, "given the OWN TYPE second", Due.NO_USE, () -> x.wouldChoose(3, 0, 3, 2));
        due.is("and one that is none of these", x.wouldChoose(3, 0, 3, 3), 0);
    }

    private static void promise28() {
        due.part("28 faultsWithout");
        Hornbook x = fruits();
        x.method(0, 0, -1, -1, 3, false);
        x.method(0, 1, 3, -1, 4, false);
        x.method(0, 1, 4, -1, 5, false);
        x.method(0, 2, 3, 4, 3, false);
        x.method(0, 2, 4, 3, 3, false);
        int apple = x.value(5);
        int thing = x.call(apple, 0, -1, -1);
        int found = x.call(apple, 1, apple, -1);
        int checked = x.as(found, 5);
        x.call(apple, 1, thing, -1);
        x.call(apple, 2, apple, apple);
        x.call(checked, 0, -1, -1);
        due.is("faults()", x.faults(), 1);
        long before = x.digest();
        // of 0: both of its CALLS have one then; the CALL that is given one of these has none noted
        due.is("without 0", x.faultsWithout(0), 3);
        due.is("without 1", x.faultsWithout(1), 2);
        // of 2: the other one is CHOSEN, whose RESULT is not UNDER that of AS
        due.is("without 2", x.faultsWithout(2), 2);
        due.is("without 3", x.faultsWithout(3), 0);
        due.is("without 4", x.faultsWithout(4), 0);
        due.is("nothing is changed", x.digest() - before, 0);
        due.is("chosen as before", x.chosen(found), 2);
        due.fails(x, "faultsWithout(-1)", Due.NO_SUCH, () -> x.faultsWithout(-1));
        due.fails(x, "faultsWithout(5)", Due.NO_SUCH, () -> x.faultsWithout(5));
    }

    private static void promise29() {
        due.part("29 faultsWith");
        Hornbook x = fruits();
        x.sort(2, 0, 2);
        int sourceOfApples = x.type(3, 5, -1);
        int sourceOfFruit = x.type(3, 4, -1);
        int pair = x.type(4, 4, 4);
        int narrow = x.type(4, 5, 4);
        int wide = x.type(4, 4, 3);
        int e = x.value(sourceOfApples);
        int f = x.value(sourceOfFruit);
        x.as(e, sourceOfFruit);
        x.as(f, sourceOfApples);
        int p = x.value(pair);
        x.as(p, narrow);
        x.as(p, wide);
        x.as(x.value(narrow), pair);
        x.as(x.value(wide), pair);
        due.is("faults()", x.faults(), 4);
        long before = x.digest();
        due.is("the source FIXED", x.faultsWith(3, 0, 0), 5);
        due.is("the source OUT, as it is", x.faultsWith(3, 0, 1), 4);
        due.is("the source IN", x.faultsWith(3, 0, 2), 4);
        due.is("the first of the pair OUT", x.faultsWith(4, 0, 1), 3);
        due.is("the first of the pair IN", x.faultsWith(4, 0, 2), 3);
        due.is("the second of the pair FIXED", x.faultsWith(4, 1, 0), 5);
        due.is("the second of the pair OUT", x.faultsWith(4, 1, 1), 4);
        due.is("nothing is changed", x.digest() - before, 0);
        due.is("as before", x.isUnder(sourceOfApples, sourceOfFruit), true);
        // JOINS are others, too
        x.as(x.either(e, f), sourceOfFruit);
        due.is("faults()", x.faults(), 4);
        due.is("the JOIN, FIXED, is ANY", x.faultsWith(3, 0, 0), 6);
        due.is("the JOIN, IN", x.faultsWith(3, 0, 2), 5);
        due.is("and again as it is", x.faults(), 4);
        due.row("the JOIN as before", Due.join(x, sourceOfApples, sourceOfFruit), 3, 1);
    }

    private static void promise29Refused() {
        due.part("29 and 30, refused");
        Hornbook x = fruits();
        x.sort(2, 0, 0);
        x.value(3);
        x.as(0, 5);
        due.fails(x, "faultsWith(-1, 0, 0)", Due.NO_SUCH, () -> x.faultsWith(-1, 0, 0));
        due.fails(x, "faultsWith(5, 0, 0)", Due.NO_SUCH, () -> x.faultsWith(5, 0, 0));
        due.fails(x, "faultsWith(0, 0, 0)", Due.NO_SUCH, () -> x.faultsWith(0, 0, 0));
        due.fails(x, "faultsWith(3, 1, 0)", Due.NO_SUCH, () -> x.faultsWith(3, 1, 0));
        due.fails(x, "faultsWith(3, -1, 0)", Due.NO_SUCH, () -> x.faultsWith(3, -1, 0));
        due.fails(x, "faultsWith(4, 2, 3)", Due.NO_SUCH, () -> x.faultsWith(4, 2, 3));
        due.fails(x, "faultsWith(4, 1, 3)", Due.NO_USE, () -> x.faultsWith(4, 1, 3));
        due.fails(x, "faultsWith(3, 0, -1)", Due.NO_USE, () -> x.faultsWith(3, 0, -1));
        due.fails(x, "flawsWith(-1, 0, 0)", Due.NO_SUCH, () -> x.flawsWith(-1, 0, 0));
        due.fails(x, "flawsWith(5, 0, 0)", Due.NO_SUCH, () -> x.flawsWith(5, 0, 0));
        due.fails(x, "flawsWith(0, 0, 0)", Due.NO_SUCH, () -> x.flawsWith(0, 0, 0));
        due.fails(x, "flawsWith(3, 1, 0)", Due.NO_SUCH, () -> x.flawsWith(3, 1, 0));
        due.fails(x, "flawsWith(4, -1, 0)", Due.NO_SUCH, () -> x.flawsWith(4, -1, 0));
        due.fails(x, "flawsWith(4, 2, -1)", Due.NO_SUCH, () -> x.flawsWith(4, 2, -1));
        due.fails(x, "flawsWith(4, 1, 3)", Due.NO_USE, () -> x.flawsWith(4, 1, 3));
        due.fails(x, "flawsWith(3, 0, -1)", Due.NO_USE, () -> x.flawsWith(3, 0, -1));
    }

    private static void promise30() {
        due.part("30 flawsWith");
        Hornbook x = fruits();
        int sourceOfOpen = x.type(3, 6, -1);
        int second = x.parameter(1);
        int sourceOfSecond = x.type(3, second, -1);
        x.sort(2, 1, 0);
        x.parent(4, sourceOfOpen);
        x.method(3, 0, -1, -1, 6, false);
        x.method(4, 0, 6, -1, 0, false);
        x.method(4, 0, second, -1, second, false);
        x.method(4, 0, sourceOfSecond, -1, 0, false);
        due.is("flaws()", x.flaws(), 1);
        long before = x.digest();
        due.is("the source FIXED: its child's stands FIXED", x.flawsWith(3, 0, 0), 2);
        due.is("the source OUT, as it is", x.flawsWith(3, 0, 1), 1);
        // IN: its RESULT, its child's PARENT; what the last METHOD is given is FIXED, and stays so
        due.is("the source IN", x.flawsWith(3, 0, 2), 3);
        due.is("the first one FIXED", x.flawsWith(4, 0, 0), 0);
        due.is("the first one IN", x.flawsWith(4, 0, 2), 1);
        due.is("the second one OUT", x.flawsWith(4, 1, 1), 3);
        due.is("the second one IN", x.flawsWith(4, 1, 2), 2);
        due.is("nothing is changed", x.digest() - before, 0);
        due.is("flaws() as before", x.flaws(), 1);
        due.is("ofFlaw(0, 0)", x.ofFlaw(0, 0), 4);
        due.is("ofFlaw(0, 1)", x.ofFlaw(0, 1), 3);
        due.is("ofFlaw(0, 2)", x.ofFlaw(0, 2), 1);
    }

    private static void promise31() {
        due.part("31 meanDepth");
        Hornbook x = fruits();
        due.is("without any", x.meanDepth(), 0.0);
        int source = x.type(3, 5, -1);
        int deep = x.type(3, source, -1);
        x.value(5);
        due.is("0", x.meanDepth(), 0.0);
        x.value(deep);
        due.is("0 and 2", x.meanDepth(), 1.0);
        x.value(source);
        due.is("0, 2 and 1", x.meanDepth(), 1.0);
        x.value(0);
        due.is("not rounded", x.meanDepth(), 0.75);
        x.value(source);
        x.value(source);
        x.value(source);
        due.is("six in seven", x.meanDepth(), 6.0 / 7);
        x.either(1, 2);
        x.call(1, 0, -1, -1);
        due.is("the JOIN of both, and a CALL with a FAULT", x.meanDepth(), 7.0 / 9);
    }

    private static void promise32() {
        due.part("32 digest");
        Hornbook x = new Hornbook();
        // many() is 0, 3, 0, 0; no FAULTS, no FLAWS; three TYPES of DEPTH 0 without a ROAD
        long d = 58064;
        for (int n : new int[] {0, 3, 0, 0, 0, 0}) d = d * 31 + n;
        for (int t = 0; t < 3; t++) for (int n : new int[] {0, -9, -9, -9, -9}) d = d * 31 + n;
        due.is("of a new one", x.digest(), d);
        due.is("again", x.digest(), d);
        x.sort(0, 0, 0);
        if (x.digest() == d) due.is("of one with a SORT is another one", true, false);
    }

    private static void promise32Told() {
        due.part("32 digest, of what was told");
        Hornbook x = fruits();
        int source = x.type(3, 5, -1);
        int pair = x.sort(2, 1, 2);
        int second = x.parameter(1);
        int sourceOfSecond = x.type(3, second, -1);
        x.parent(pair, sourceOfSecond);
        x.parent(pair, 3);
        int both = x.type(pair, source, source);
        x.method(0, 0, 2, -1, 2, true);
        x.method(pair, 0, 6, -1, second, false);
        x.value(both);
        x.value(source);
        x.call(0, 0, 1, -1);
        x.call(0, 1, 1, -1);
        x.call(1, 0, 2, -1);
        x.as(0, 5);
        x.either(0, 1);
        x.call(0, 0, 3, 1);
        x.call(0, 0, 0, -1);
        long d = 58064;
        for (int i = 0; i < 4; i++) d = d * 31 + x.many(i);
        d = d * 31 + x.faults();
        d = d * 31 + x.flaws();
        for (int t = 0; t < x.many(1); t++) {
            d = d * 31 + x.depth(t);
            for (int k = 0; k < 4; k++) d = d * 31 + x.road(t, 1, k);
        }
        for (int e = 0; e < x.many(3); e++) {
            for (int k = 0; k < 6; k++) d = d * 31 + x.line(e, k);
            d = d * 31 + x.seen(e);
            d = d * 31 + x.taking(e);
            d = d * 31 + x.chosen(e);
            d = d * 31 + x.own(e, 0);
            d = d * 31 + (x.isFaulty(e) ? 1 : 0);
        }
        for (int f = 0; f < x.faults(); f++) {
            d = d * 31 + x.ofFault(f, 0);
            d = d * 31 + x.ofFault(f, 1);
        }
        for (int f = 0; f < x.flaws(); f++) {
            for (int what = 0; what < 3; what++) d = d * 31 + x.ofFlaw(f, what);
        }
        due.is("there are FAULTS", x.faults() > 1, true);
        due.is("there are FLAWS", x.flaws() > 1, true);
        due.is("there is an OWN TYPE", x.own(8, 0), pair);
        due.is("digest()", x.digest(), d);
    }
}
