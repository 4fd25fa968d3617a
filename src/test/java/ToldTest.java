/** Promises 1 to 11: a new object, and what is told. */
public final class ToldTest {
    private static final Due due = new Due();

    public static void main(String[] args) {
        promise1();
        promise2();
        promise3();
        promise3Refused();
        promise4();
        promise4Deep();
        promise5();
        promise6();
        promise6Refused();
        promise7();
        promise8();
        promise9();
        promise10();
        promise11();
        due.end();
    }

    private static void promise1() {
        due.part("1 a new object");
        Hornbook x = new Hornbook();
        due.is("many(0)", x.many(0), 0);
        due.is("many(1)", x.many(1), 3);
        due.is("many(2)", x.many(2), 0);
        due.is("many(3)", x.many(3), 0);
        due.is("faults()", x.faults(), 0);
        due.is("flaws()", x.flaws(), 0);
        due.is("NOTHING under ANY", x.isUnder(1, 0), true);
        due.is("ANY under NOTHING", x.isUnder(0, 1), false);
        due.is("the OWN TYPE under ANY", x.isUnder(2, 0), true);
        due.is("NOTHING under the OWN TYPE", x.isUnder(1, 2), true);
        due.is("ANY under the OWN TYPE", x.isUnder(0, 2), false);
        due.row("join(0, 0)", Due.join(x, 0, 0), -1);
        due.row("join(1, 1)", Due.join(x, 1, 1), -2);
        due.row("join(2, 2)", Due.join(x, 2, 2), -3);
        x.sort(0, 0, 0);
        due.is("another new one has no SORT", new Hornbook().many(0), 0);
    }

    private static void promise2() {
        due.part("2 sort");
        Hornbook x = new Hornbook();
        due.fails(x, "sort(-1, 0, 0)", Due.NO_USE, () -> x.sort(-1, 0, 0));
        due.fails(x, "sort(3, 0, 0)", Due.NO_USE, () -> x.sort(3, 0, 0));
        due.fails(x, "sort(1, -1, 0)", Due.NO_USE, () -> x.sort(1, -1, 0));
        due.fails(x, "sort(1, 3, 0)", Due.NO_USE, () -> x.sort(1, 3, 0));
        due.fails(x, "sort(2, 0, 3)", Due.NO_USE, () -> x.sort(2, 0, 3));
        due.fails(x, "sort(2, 0, -1)", Due.NO_USE, () -> x.sort(2, 0, -1));
        due.fails(x, "sort(2, 9, 0)", Due.NO_USE, () -> x.sort(2, 9, 0));
        due.fails(x, "sort(least)", Due.NO_USE, () -> x.sort(Integer.MIN_VALUE, 0, 0));
        due.is("sort(0, 7, -7) looks at neither", x.sort(0, 7, -7), 0);
        due.is("sort(1, 2, 99) doesn't look at the second", x.sort(1, 2, 99), 1);
        due.is("sort(2, 0, 1)", x.sort(2, 0, 1), 2);
        for (int i = 3; i < 12; i++) due.is("sort " + i, x.sort(i % 3, 1, 2), i);
        due.is("many(0)", x.many(0), 12);
        due.fails(x, "the 13th", Due.NOT_NOW, () -> x.sort(0, 0, 0));
        due.fails(x, "the 13th, and a wrong one", Due.NO_USE, () -> x.sort(3, 0, 0));
        due.is("many(0) after these", x.many(0), 12);
    }

    private static void promise3() {
        due.part("3 parent");
        Hornbook x = new Hornbook();
        x.sort(0, 0, 0);
        x.sort(1, 1, 0);
        x.sort(2, 0, 0);
        int thing = x.type(0, -1, -1);
        int first = x.parameter(0);
        int second = x.parameter(1);
        int outOfFirst = x.type(1, first, -1);
        int outOfSecond = x.type(1, second, -1);
        int any = x.type(1, 0, -1);
        int none = x.type(1, 1, -1);
        int pair = x.type(2, thing, thing);
        due.row("the ROAD of a pair without PARENTS", Due.road(x, pair, 1));
        due.is("parent(2, Out<P1>)", x.parent(2, outOfSecond), 1);
        due.row("the ROAD of a pair", Due.road(x, pair, 1), 1, 0);
        due.is("parent(2, Thing)", x.parent(2, thing), 2);
        due.row("the ROAD of a pair, place 2", Due.road(x, pair, 2), 0);
        due.is("parent(1, Thing)", x.parent(1, thing), 1);
        due.is("the same once more", x.parent(1, thing), 2);
        due.row("place 1 of Out<Any>", Due.road(x, any, 1), 0);
        due.row("place 2 of Out<Any>", Due.road(x, any, 2));
        x.sort(1, 0, 0);
        due.is("parent(3, Out<Any>)", x.parent(3, any), 1);
        due.is("parent(3, Out<Nothing>)", x.parent(3, none), 2);
        x.sort(1, 0, 0);
        due.is("parent(4, Out<P0>)", x.parent(4, outOfFirst), 1);
        // what is told later counts: the VALUE was told before its PARENT was
        x.sort(0, 0, 0);
        int late = x.type(5, -1, -1);
        int e = x.value(late);
        int checked = x.as(e, thing);
        due.is("faulty before", x.isFaulty(checked), true);
        x.parent(5, any);
        due.is("sound after", x.isFaulty(checked), false);
    }

    private static void promise3Refused() {
        due.part("3 parent, refused");
        Hornbook x = new Hornbook();
        x.sort(0, 0, 0);
        x.sort(1, 1, 0);
        x.sort(1, 0, 0);
        x.sort(0, 0, 0);
        int thing = x.type(0, -1, -1);
        int first = x.parameter(0);
        int second = x.parameter(1);
        int outOfFirst = x.type(1, first, -1);
        int outOfSecond = x.type(1, second, -1);
        int outOfOwn = x.type(1, 2, -1);
        int self = x.type(2, first, -1);
        int later = x.type(3, -1, -1);
        int outOfLater = x.type(1, later, -1);
        int outOfSelf = x.type(1, self, -1);
        due.fails(x, "no SORT -1", Due.NO_SUCH, () -> x.parent(-1, thing));
        due.fails(x, "no SORT 4", Due.NO_SUCH, () -> x.parent(4, thing));
        due.fails(x, "no TYPE -1", Due.NO_SUCH, () -> x.parent(2, -1));
        due.fails(x, "no TYPE", Due.NO_SUCH, () -> x.parent(2, x.many(1)));
        due.fails(x, "ANY", Due.NO_USE, () -> x.parent(2, 0));
        due.fails(x, "NOTHING", Due.NO_USE, () -> x.parent(2, 1));
        due.fails(x, "the OWN TYPE", Due.NO_USE, () -> x.parent(2, 2));
        due.fails(x, "a PARAMETER", Due.NO_USE, () -> x.parent(2, first));
        due.fails(x, "the OWN TYPE in it", Due.NO_USE, () -> x.parent(2, outOfOwn));
        due.fails(x, "its own SORT", Due.NO_USE, () -> x.parent(2, self));
        due.fails(x, "its own SORT in it", Due.NO_USE, () -> x.parent(2, outOfSelf));
        due.fails(x, "a later SORT", Due.NO_USE, () -> x.parent(2, later));
        due.fails(x, "a later SORT in it", Due.NO_USE, () -> x.parent(2, outOfLater));
        due.fails(x, "a PARAMETER it has not", Due.NO_USE, () -> x.parent(2, outOfSecond));
        due.fails(x, "a PARAMETER, though it has none", Due.NO_USE, () -> x.parent(3, outOfFirst));
        due.fails(x, "the SORT 0", Due.NO_USE, () -> x.parent(0, thing));
        x.parent(2, outOfFirst);
        x.parent(2, thing);
        due.fails(x, "a third one", Due.NOT_NOW, () -> x.parent(2, thing));
        due.fails(x, "a third one that can't be one", Due.NO_USE, () -> x.parent(2, later));
        due.fails(x, "a third one that there is not", Due.NO_SUCH, () -> x.parent(2, 99));
    }

    private static void promise4() {
        due.part("4 type");
        Hornbook x = new Hornbook();
        due.fails(x, "no SORT yet", Due.NO_SUCH, () -> x.type(0, -1, -1));
        x.sort(0, 0, 0);
        x.sort(1, 0, 0);
        x.sort(2, 1, 2);
        due.is("type(0, -1, -1)", x.type(0, -1, -1), 3);
        due.is("type(1, 0, -1)", x.type(1, 0, -1), 4);
        due.is("type(2, 4, 2)", x.type(2, 4, 2), 5);
        due.is("the same again", x.type(2, 4, 2), 6);
        due.row("its LINE", Due.road(x, 6, 0), 2, 1, -1, -3);
        due.fails(x, "type(-1, ..)", Due.NO_SUCH, () -> x.type(-1, -1, -1));
        due.fails(x, "type(3, ..)", Due.NO_SUCH, () -> x.type(3, -1, -1));
        due.fails(x, "type(1, -2, -1)", Due.NO_SUCH, () -> x.type(1, -2, -1));
        due.fails(x, "type(1, 7, -1)", Due.NO_SUCH, () -> x.type(1, 7, -1));
        due.fails(x, "type(2, 0, -2)", Due.NO_SUCH, () -> x.type(2, 0, -2));
        due.fails(x, "type(2, 0, 7)", Due.NO_SUCH, () -> x.type(2, 0, 7));
        due.fails(x, "type(2, -1, 7): first of both", Due.NO_SUCH, () -> x.type(2, -1, 7));
        due.fails(x, "type(2, -1, 3)", Due.NO_USE, () -> x.type(2, -1, 3));
        due.fails(x, "type(1, -1, 3)", Due.NO_USE, () -> x.type(1, -1, 3));
        due.fails(x, "type(0, 3, -1)", Due.NO_USE, () -> x.type(0, 3, -1));
        due.fails(x, "type(1, -1, -1)", Due.NO_USE, () -> x.type(1, -1, -1));
        due.fails(x, "type(1, 3, 3)", Due.NO_USE, () -> x.type(1, 3, 3));
        due.fails(x, "type(2, 3, -1)", Due.NO_USE, () -> x.type(2, 3, -1));
        due.fails(x, "type(2, -1, -1)", Due.NO_USE, () -> x.type(2, -1, -1));
        for (int i = 7; i < 60; i++) due.is("TYPE " + i, x.type(1, 3, -1), i);
        due.is("many(1)", x.many(1), 60);
        due.fails(x, "the 61st", Due.NOT_NOW, () -> x.type(1, 3, -1));
        due.fails(x, "the 61st, and wrong", Due.NO_USE, () -> x.type(1, -1, -1));
        due.fails(x, "the 61st, of a TYPE that there is not", Due.NO_SUCH, () -> x.type(1, 60, -1));
    }

    private static void promise4Deep() {
        due.part("4 type, how deep");
        Hornbook x = new Hornbook();
        x.sort(0, 0, 0);
        x.sort(2, 0, 0);
        int t = x.type(0, -1, -1);
        int leaf = t;
        for (int depth = 1; depth <= 4; depth++) {
            t = x.type(1, t, leaf);
            due.is("DEPTH " + depth, x.depth(t), depth);
        }
        int deep = t;
        due.fails(x, "5 deep in the first one", Due.NO_USE, () -> x.type(1, deep, leaf));
        due.fails(x, "5 deep in the second one", Due.NO_USE, () -> x.type(1, leaf, deep));
        due.is("4 deep in the second one", x.depth(x.type(1, leaf, deep - 1)), 4);
    }

    private static void promise5() {
        due.part("5 parameter");
        Hornbook x = new Hornbook();
        due.fails(x, "parameter(-1)", Due.NO_USE, () -> x.parameter(-1));
        due.fails(x, "parameter(2)", Due.NO_USE, () -> x.parameter(2));
        due.is("parameter(0)", x.parameter(0), 3);
        due.is("parameter(1)", x.parameter(1), 4);
        due.is("parameter(0) again", x.parameter(0), 5);
        due.is("both are the SAME", x.isSame(3, 5), true);
        due.is("these are not", x.isSame(3, 4), false);
        due.row("join(3, 5)", Due.join(x, 3, 5), -4);
        due.row("join(4, 4)", Due.join(x, 4, 4), -5);
        due.row("join(3, 4)", Due.join(x, 3, 4), -1);
        for (int i = 6; i < 60; i++) due.is("TYPE " + i, x.parameter(1), i);
        due.fails(x, "the 61st", Due.NOT_NOW, () -> x.parameter(0));
        due.fails(x, "the 61st, and wrong", Due.NO_USE, () -> x.parameter(2));
    }

    private static void promise6() {
        due.part("6 method");
        Hornbook x = new Hornbook();
        x.sort(0, 0, 0);
        x.sort(2, 1, 2);
        int thing = x.type(0, -1, -1);
        int first = x.parameter(0);
        int second = x.parameter(1);
        due.is("with nothing given", x.method(0, 0, -1, -1, thing, false), 0);
        due.is("with one", x.method(0, 9, thing, -1, 0, false), 1);
        due.is("with two", x.method(1, 9, second, thing, first, false), 2);
        due.is("GENERAL", x.method(0, 3, 2, 2, 2, true), 3);
        due.is("GENERAL with all", x.method(1, 3, first, second, 2, true), 4);
        due.is("GENERAL without its OWN TYPE", x.method(0, 3, -1, -1, 0, true), 5);
        int e = x.value(thing);
        int called = x.call(e, 4, -1, -1);
        due.is("nothing yet", x.isFaulty(called), true);
        due.is("told later", x.method(0, 4, -1, -1, thing, false), 6);
        due.is("counts for what was told earlier", x.isFaulty(called), false);
        for (int i = 7; i < 30; i++) due.is("METHOD " + i, x.method(0, 5, -1, -1, 0, false), i);
        due.is("many(2)", x.many(2), 30);
        due.fails(x, "the 31st", Due.NOT_NOW, () -> x.method(0, 5, -1, -1, 0, false));
        due.fails(x, "the 31st, and wrong", Due.NO_USE, () -> x.method(0, 10, -1, -1, 0, false));
        due.fails(x, "the 31st, of a SORT that there is not", Due.NO_SUCH, () -> x.method(2, 5, -1, -1, 0, false));
    }

    private static void promise6Refused() {
        due.part("6 method, refused");
        Hornbook x = new Hornbook();
        x.sort(0, 0, 0);
        x.sort(1, 1, 0);
        int thing = x.type(0, -1, -1);
        int first = x.parameter(0);
        int second = x.parameter(1);
        int inner = x.type(1, second, -1);
        int ownInner = x.type(1, 2, -1);
        int size = x.many(1);
        due.fails(x, "no SORT 2", Due.NO_SUCH, () -> x.method(2, 0, -1, -1, thing, false));
        due.fails(x, "no SORT -1", Due.NO_SUCH, () -> x.method(-1, 0, -1, -1, thing, false));
        due.fails(x, "no TYPE -2", Due.NO_SUCH, () -> x.method(0, 0, -2, -1, thing, false));
        due.fails(x, "no TYPE to be given", Due.NO_SUCH, () -> x.method(0, 0, size, -1, thing, false));
        due.fails(x, "no second TYPE", Due.NO_SUCH, () -> x.method(0, 0, thing, size, thing, false));
        due.fails(x, "no RESULT", Due.NO_SUCH, () -> x.method(0, 0, -1, -1, size, false));
        due.fails(x, "no RESULT -1", Due.NO_SUCH, () -> x.method(0, 0, -1, -1, -1, false));
        due.fails(x, "no RESULT, and a wrong NAME", Due.NO_SUCH, () -> x.method(0, 10, -1, -1, -1, false));
        due.fails(x, "NAME -1", Due.NO_USE, () -> x.method(0, -1, -1, -1, thing, false));
        due.fails(x, "NAME 10", Due.NO_USE, () -> x.method(0, 10, -1, -1, thing, false));
        due.fails(x, "the second without the first", Due.NO_USE, () -> x.method(0, 0, -1, thing, thing, false));
        due.fails(x, "a PARAMETER of none, given", Due.NO_USE, () -> x.method(0, 0, first, -1, thing, false));
        due.fails(x, "a PARAMETER of none, RESULT", Due.NO_USE, () -> x.method(0, 0, -1, -1, first, false));
        due.fails(x, "the second of one, given second", Due.NO_USE, () -> x.method(1, 0, first, second, thing, false));
        due.fails(x, "the second of one, inner", Due.NO_USE, () -> x.method(1, 0, -1, -1, inner, true));
        due.fails(x, "the OWN TYPE, given", Due.NO_USE, () -> x.method(0, 0, 2, -1, thing, false));
        due.fails(x, "the OWN TYPE, given second", Due.NO_USE, () -> x.method(0, 0, thing, 2, thing, false));
        due.fails(x, "the OWN TYPE, RESULT", Due.NO_USE, () -> x.method(0, 0, -1, -1, 2, false));
        due.fails(x, "the OWN TYPE, inner", Due.NO_USE, () -> x.method(1, 0, -1, -1, ownInner, false));
        due.is("many(2)", x.many(2), 0);
        due.is("the same, GENERAL", x.method(1, 0, -1, -1, ownInner, true), 0);
    }

    private static void promise7() {
        due.part("7 value");
        Hornbook x = new Hornbook();
        x.sort(1, 0, 0);
        int first = x.parameter(0);
        int list = x.type(0, 1, -1);
        int open = x.type(0, first, -1);
        int owned = x.type(0, 2, -1);
        int deeper = x.type(0, open, -1);
        due.fails(x, "value(-1)", Due.NO_SUCH, () -> x.value(-1));
        due.fails(x, "no such TYPE", Due.NO_SUCH, () -> x.value(deeper + 1));
        due.fails(x, "the OWN TYPE", Due.NO_USE, () -> x.value(2));
        due.fails(x, "a PARAMETER", Due.NO_USE, () -> x.value(first));
        due.fails(x, "a PARAMETER in it", Due.NO_USE, () -> x.value(open));
        due.fails(x, "a PARAMETER deep in it", Due.NO_USE, () -> x.value(deeper));
        due.fails(x, "the OWN TYPE in it", Due.NO_USE, () -> x.value(owned));
        due.is("of a TYPE", x.value(list), 0);
        due.is("of ANY", x.value(0), 1);
        due.is("of NOTHING", x.value(1), 2);
        due.row("line(0)", Due.line(x, 0), 0, -2);
        due.row("line(1)", Due.line(x, 1), -1);
        due.row("line(2)", Due.line(x, 2), -2);
        for (int i = 3; i < 40; i++) due.is("EXPRESSION " + i, x.value(0), i);
        due.fails(x, "the 41st", Due.NOT_NOW, () -> x.value(0));
        due.fails(x, "the 41st, and not CLOSED", Due.NO_USE, () -> x.value(first));
        due.fails(x, "the 41st, of no TYPE", Due.NO_SUCH, () -> x.value(99));
    }

    private static void promise8() {
        due.part("8 either");
        Hornbook x = new Hornbook();
        due.fails(x, "none yet", Due.NO_SUCH, () -> x.either(0, 0));
        x.value(1);
        x.value(0);
        due.fails(x, "either(-1, 0)", Due.NO_SUCH, () -> x.either(-1, 0));
        due.fails(x, "either(0, -1)", Due.NO_SUCH, () -> x.either(0, -1));
        due.fails(x, "itself", Due.NO_SUCH, () -> x.either(0, 2));
        due.is("either(0, 1)", x.either(0, 1), 2);
        due.row("its TYPE", Due.line(x, 2), -1);
        due.is("either(0, 0)", x.either(0, 0), 3);
        due.row("its TYPE", Due.line(x, 3), -2);
        for (int i = 4; i < 40; i++) due.is("EXPRESSION " + i, x.either(i - 1, 0), i);
        due.fails(x, "the 41st", Due.NOT_NOW, () -> x.either(0, 0));
        due.fails(x, "the 41st, of what there is not", Due.NO_SUCH, () -> x.either(0, 40));
    }

    private static void promise9() {
        due.part("9 as");
        Hornbook x = new Hornbook();
        x.sort(1, 0, 0);
        int first = x.parameter(0);
        int open = x.type(0, first, -1);
        due.fails(x, "none yet", Due.NO_SUCH, () -> x.as(0, 0));
        x.value(1);
        due.fails(x, "as(-1, 0)", Due.NO_SUCH, () -> x.as(-1, 0));
        due.fails(x, "as(1, 0)", Due.NO_SUCH, () -> x.as(1, 0));
        due.fails(x, "as(0, -1)", Due.NO_SUCH, () -> x.as(0, -1));
        due.fails(x, "as(0, 5)", Due.NO_SUCH, () -> x.as(0, 5));
        due.fails(x, "no EXPRESSION, and not CLOSED", Due.NO_SUCH, () -> x.as(1, first));
        due.fails(x, "the OWN TYPE", Due.NO_USE, () -> x.as(0, 2));
        due.fails(x, "a PARAMETER", Due.NO_USE, () -> x.as(0, first));
        due.fails(x, "a PARAMETER in it", Due.NO_USE, () -> x.as(0, open));
        due.is("as(0, 0)", x.as(0, 0), 1);
        due.row("its TYPE", Due.line(x, 1), -1);
        due.is("as(1, 1)", x.as(1, 1), 2);
        due.row("its TYPE, though it has a FAULT", Due.line(x, 2), -2);
        for (int i = 3; i < 40; i++) due.is("EXPRESSION " + i, x.as(0, 0), i);
        due.fails(x, "the 41st", Due.NOT_NOW, () -> x.as(0, 0));
        due.fails(x, "the 41st, not CLOSED", Due.NO_USE, () -> x.as(0, 2));
    }

    private static void promise10() {
        due.part("10 call");
        Hornbook x = new Hornbook();
        due.fails(x, "none yet", Due.NO_SUCH, () -> x.call(0, 0, -1, -1));
        x.value(1);
        due.fails(x, "call(-1, ..)", Due.NO_SUCH, () -> x.call(-1, 0, -1, -1));
        due.fails(x, "call(1, ..)", Due.NO_SUCH, () -> x.call(1, 0, -1, -1));
        due.fails(x, "given -2", Due.NO_SUCH, () -> x.call(0, 0, -2, -1));
        due.fails(x, "given 1", Due.NO_SUCH, () -> x.call(0, 0, 1, -1));
        due.fails(x, "given 0 and -2", Due.NO_SUCH, () -> x.call(0, 0, 0, -2));
        due.fails(x, "given 0 and 1", Due.NO_SUCH, () -> x.call(0, 0, 0, 1));
        due.fails(x, "given none and 1", Due.NO_SUCH, () -> x.call(0, 0, -1, 1));
        due.fails(x, "no EXPRESSION, and a wrong NAME", Due.NO_SUCH, () -> x.call(1, 10, -1, -1));
        due.fails(x, "NAME -1", Due.NO_USE, () -> x.call(0, -1, -1, -1));
        due.fails(x, "NAME 10", Due.NO_USE, () -> x.call(0, 10, -1, -1));
        due.fails(x, "the second without the first", Due.NO_USE, () -> x.call(0, 0, -1, 0));
        due.is("call(0, 0)", x.call(0, 0, -1, -1), 1);
        due.is("call(0, 9, 0)", x.call(0, 9, 0, -1), 2);
        due.is("call(0, 5, 1, 2)", x.call(0, 5, 1, 2), 3);
        for (int i = 4; i < 40; i++) due.is("EXPRESSION " + i, x.call(0, 5, 0, 0), i);
        due.fails(x, "the 41st", Due.NOT_NOW, () -> x.call(0, 0, -1, -1));
        due.fails(x, "the 41st, and a wrong NAME", Due.NO_USE, () -> x.call(0, 10, -1, -1));
        due.fails(x, "the 41st, of what there is not", Due.NO_SUCH, () -> x.call(40, 0, -1, -1));
    }

    private static void promise11() {
        due.part("11 many");
        Hornbook x = new Hornbook();
        x.sort(0, 0, 0);
        x.sort(1, 0, 0);
        x.type(0, -1, -1);
        x.parameter(1);
        x.type(1, 3, -1);
        x.method(0, 0, -1, -1, 0, false);
        x.value(0);
        x.value(0);
        x.either(0, 1);
        x.as(0, 0);
        x.call(0, 0, -1, -1);
        due.is("many(0)", x.many(0), 2);
        due.is("many(1)", x.many(1), 6);
        due.is("many(2)", x.many(2), 1);
        due.is("many(3)", x.many(3), 5);
        due.fails(x, "many(-1)", Due.NO_USE, () -> x.many(-1));
        due.fails(x, "many(4)", Due.NO_USE, () -> x.many(4));
        due.fails(x, "many(greatest)", Due.NO_USE, () -> x.many(Integer.MAX_VALUE));
    }
}
