import java.util.function.ToIntFunction;

/**
 * Promises 35 to 38 and what REFUSED means: of each call that can be refused, by each that it names, what it answers,
 * what status() and count() say of it, and that all else is as it was; which comes first; IMAGES at their edges.
 */
public final class RefusalEdgesTest {
    private static final int NONE = -1;
    private static final int[] WHYS = {-1, -2, -3, -5, -6};
    private static final Check CHECK = new Check();

    public static void main(String[] args) {
        refusedByNumber();
        refusedByWhatIsNotThere();
        refusedByWhatStands();
        refusedByRoom();
        refusedByText();
        firstInThatOrder();
        acceptedOnes();
        acceptedNoughts();
        noRefusalAtAll();
        countNumbers();
        countOfMany();
        statusOfTheLatest();
        imageNumbers();
        imageKeptAnew();
        imageKeepsAll();
        imagesHaveTheirOwn();
        imageKeepsNot();
        backForgetsUndo();
        imagesStay();
        imageOfFull();
        CHECK.finish("RefusalEdgesTest");
    }

    private static void is(String call, long got, long want) {
        CHECK.due(call, got, want);
    }

    /** Something of everything, and one refusal by each, so that nothing stands as in a new one. */
    private static TallySticks world() {
        TallySticks x = new TallySticks();
        x.person(100);
        x.person(200);
        x.person(300);
        x.stick(0, 1, 50, 1, 0, 0);
        x.stick(1, 2, 60, 2, 1, 9);
        x.stick(2, 0, 400, 3, 2, 0);
        x.stick(0, 2, 7, 4, 3, 0);
        x.foil(1, 999);
        x.terms(1, 3);
        x.image(0);
        Check.put(x, "\u0005\u0005\u0005\u0005");
        x.row();
        Check.law(x, "pays sum+day; bars if to=1 and kind=2");
        x.force(0);
        x.years(0, 1);
        x.call(0);
        x.pass();
        x.person(-1);
        x.give(9, 9);
        Check.orders(x, "pass; call 9");
        Check.law(x, "bars bars");
        return x;
    }

    private static TallySticks full() {
        TallySticks x = world();
        for (int i = 0; i < 8; i++) {
            if (i < 3) {
                x.person(9999);
            }
            if (i < 5) {
                Check.law(x, "pays 1");
            }
            if (i < 6) {
                x.stick(0, 1, 1, 5 + i, 0, 0);
            }
            x.foil(0, 1);
        }
        x.pass();
        return x;
    }

    private static int counted(TallySticks x, int why) {
        for (int i = 0; i < WHYS.length; i++) {
            if (WHYS[i] == why) {
                return x.count(7 + i);
            }
        }
        return NONE;
    }

    private static int countedAll(TallySticks x) {
        int all = 0;
        for (int why : WHYS) {
            all += counted(x, why);
        }
        return all;
    }

    private static void refused(String name, TallySticks x, int why, ToIntFunction<TallySticks> call) {
        String was = Check.seen(x);
        int all = countedAll(x);
        int ofThese = counted(x, why);
        is(name + " answers", call.applyAsInt(x), why);
        is(name + ": status", x.status(), why);
        is(name + ": one more by " + why, counted(x, why), ofThese + 1);
        is(name + ": no other", countedAll(x), all + 1);
        CHECK.same(name + ": all else is as it was", Check.seen(x), was);
    }

    private static void refusedByNumber() {
        refused("person(-1)", world(), -1, x -> x.person(-1));
        refused("person(10000)", world(), -1, x -> x.person(10000));
        refused("stick of one", world(), -1, x -> x.stick(1, 1, 1, 0, 0, 0));
        refused("stick of sum 0", world(), -1, x -> x.stick(0, 1, 0, 0, 0, 0));
        refused("stick of sum 1000", world(), -1, x -> x.stick(0, 1, 1000, 0, 0, 0));
        refused("stick of grain -1", world(), -1, x -> x.stick(0, 1, 1, -1, 0, 0));
        refused("stick of grain 4096", world(), -1, x -> x.stick(0, 1, 1, 4096, 0, 0));
        refused("stick of kind -1", world(), -1, x -> x.stick(0, 1, 1, 0, -1, 0));
        refused("stick of kind 4", world(), -1, x -> x.stick(0, 1, 1, 0, 4, 0));
        refused("stick due -1", world(), -1, x -> x.stick(0, 1, 1, 0, 0, -1));
        refused("stick due 1000", world(), -1, x -> x.stick(0, 1, 1, 0, 0, 1000));
        refused("foil of grain -1", world(), -1, x -> x.foil(-1, 1));
        refused("foil of grain 4096", world(), -1, x -> x.foil(4096, 1));
        refused("foil of sum 0", world(), -1, x -> x.foil(0, 0));
        refused("foil of sum 1000", world(), -1, x -> x.foil(0, 1000));
        refused("terms(-1, 0)", world(), -1, x -> x.terms(-1, 0));
        refused("terms(3, 0)", world(), -1, x -> x.terms(3, 0));
        refused("terms(0, 1000)", world(), -1, x -> x.terms(0, 1000));
        refused("terms(1, 13)", world(), -1, x -> x.terms(1, 13));
        refused("terms(2, 10)", world(), -1, x -> x.terms(2, 10));
        refused("terms(2, -1)", world(), -1, x -> x.terms(2, -1));
        refused("shave by 0", world(), -1, x -> x.shave(1, 0));
        refused("shave by 999", world(), -1, x -> x.shave(1, 999));
        refused("years(-1, 1)", world(), -1, x -> x.years(-1, 1));
        refused("years(1000001, 1)", world(), -1, x -> x.years(1000001, 1));
        refused("years(0, 0)", world(), -1, x -> x.years(0, 0));
        refused("years(0, 61)", world(), -1, x -> x.years(0, 61));
        refused("image(-1)", world(), -1, x -> x.image(-1));
        refused("image(2)", world(), -1, x -> x.image(2));
        refused("back(-1)", world(), -1, x -> x.back(-1));
        refused("back(2)", world(), -1, x -> x.back(2));
    }

    private static void refusedByWhatIsNotThere() {
        refused("stick owed by 3", world(), -2, x -> x.stick(3, 1, 1, 0, 0, 0));
        refused("stick held by 3", world(), -2, x -> x.stick(0, 3, 1, 0, 0, 0));
        refused("stick owed by -1", world(), -2, x -> x.stick(-1, 1, 1, 0, 0, 0));
        refused("force(1)", world(), -2, x -> x.force(1));
        refused("force(-2)", world(), -2, x -> x.force(-2));
        refused("give(4, 0)", world(), -2, x -> x.give(4, 0));
        refused("give(1, 3)", world(), -2, x -> x.give(1, 3));
        refused("call(4)", world(), -2, x -> x.call(4));
        refused("call(-1)", world(), -2, x -> x.call(-1));
        refused("shave(4, 1)", world(), -2, x -> x.shave(4, 1));
        refused("back(1)", world(), -2, x -> x.back(1));
    }

    private static void refusedByWhatStands() {
        refused("give to who holds it", world(), -3, x -> x.give(1, 2));
        refused("give of a paid one", world(), -3, x -> x.give(0, 2));
        refused("give to who is barred", world(), -3, x -> x.give(2, 1));
        refused("call of a paid one", world(), -3, x -> x.call(0));
        refused("call ahead of its due", world(), -3, x -> x.call(1));
        refused("call of more than the purse has", world(), -3, x -> x.call(2));
        refused("shave of a paid one", world(), -3, x -> x.shave(0, 1));
        refused("shave by its sum", world(), -3, x -> x.shave(3, 7));
        refused("shave by more than the purse has", world(), -3, x -> x.shave(2, 301));
        TallySticks last = world();
        last.terms(0, 999);
        refused("pass at 999", last, -3, TallySticks::pass);
        TallySticks still = world();
        still.terms(2, 0);
        refused("undo of nothing", still, -3, TallySticks::undo);
        TallySticks empty = new TallySticks();
        empty.person(1);
        refused("years without sticks", empty, -3, x -> x.years(0, 1));
        TallySticks same = world();
        Check.orders(same, "pass; give 1 to 2");
        Check.put(same, "pass; give 1 to 2");
        String was = Check.seen(same);
        int all = countedAll(same);
        is("orders() answers", same.orders(), -3);
        is("orders(): status", same.status(), -3);
        is("orders(): one more", countedAll(same), all + 1);
        CHECK.same("orders(): all but the TAPE is as it was", Check.seen(same).replace("count6=0", "count6=17"), was);
    }

    private static void refusedByRoom() {
        refused("a seventh person", full(), -5, x -> x.person(0));
        refused("an eleventh stick", full(), -5, x -> x.stick(0, 1, 1, 0, 0, 0));
        refused("an eleventh foil", full(), -5, x -> x.foil(0, 1));
        refused("a seventh law", full(), -5, TallySticks::law);
        TallySticks fed = full();
        Check.put(fed, "pays 1");
        String was = Check.seen(fed);
        is("law() answers", fed.law(), -5);
        CHECK.same("13: the TAPE is empty then, too, all else as it was", Check.seen(fed).replace("count6=0", "count6=6"), was);
    }

    private static void refusedByText() {
        TallySticks x = world();
        x.orders();
        refused("row() of an empty tape", x, -6, TallySticks::row);
        TallySticks y = world();
        y.law();
        refused("law() of an empty tape", y, -6, TallySticks::law);
        TallySticks z = world();
        z.orders();
        refused("orders() of an empty tape", z, -6, TallySticks::orders);
        TallySticks u = world();
        Check.law(u, "bars to");
        String was = Check.seen(u);
        int all = countedAll(u);
        is("law() with a fault", Check.law(u, "bars to"), -6);
        is("its status", u.status(), -6);
        is("one more", countedAll(u), all + 1);
        CHECK.same("law(): all else is as it was", Check.seen(u), was);
        TallySticks v = world();
        Check.orders(v, "pass to");
        was = Check.seen(v);
        all = countedAll(v);
        is("orders() with a fault behind what could be run", Check.orders(v, "pass to"), -6);
        is("its status", v.status(), -6);
        is("one more", countedAll(v), all + 1);
        CHECK.same("orders(): all else is as it was", Check.seen(v), was);
    }

    private static void firstInThatOrder() {
        refused("-1 ahead of -5: person", full(), -1, x -> x.person(10000));
        refused("-1 ahead of -2 and -5: stick", full(), -1, x -> x.stick(0, 9, 1000, 0, 0, 0));
        refused("-1 of alike ahead of -2 and -5: stick", full(), -1, x -> x.stick(9, 9, 1, 0, 0, 0));
        refused("-2 ahead of -5: stick", full(), -2, x -> x.stick(0, 9, 1, 0, 0, 0));
        refused("-1 ahead of -5: foil", full(), -1, x -> x.foil(0, 0));
        refused("-2 ahead of -3: give of a paid one", world(), -2, x -> x.give(0, 3));
        refused("-1 ahead of -2: shave", world(), -1, x -> x.shave(9, 0));
        refused("-1 ahead of -3: shave of a paid one", world(), -1, x -> x.shave(0, 999));
        refused("-1 ahead of -3: years", new TallySticks(), -1, x -> x.years(0, 0));
        refused("-5 ahead of -6: law", full(), -5, TallySticks::law);
    }

    private static void accepted(String name, ToIntFunction<TallySticks> call, int told) {
        TallySticks x = world();
        x.back(7);
        int all = countedAll(x);
        is(name + " tells", call.applyAsInt(x), told);
        is(name + ": status 0", x.status(), 0);
        is(name + ": none counted", countedAll(x), all);
    }

    private static void acceptedOnes() {
        accepted("person", x -> x.person(5), 3);
        accepted("stick", x -> x.stick(0, 1, 1, 1, 1, 1), 4);
        accepted("foil", x -> x.foil(1, 1), 2);
        accepted("terms", x -> x.terms(1, 1), 3);
        accepted("row", x -> {
            Check.put(x, "\u0001\u0001\u0001");
            return x.row();
        }, 1);
        accepted("law", x -> Check.law(x, "bars"), 1);
        accepted("orders", x -> Check.orders(x, "pass"), 1);
        accepted("give", x -> x.give(1, 0), 2);
        accepted("call", x -> x.call(3), 8);
        accepted("shave", x -> x.shave(3, 1), 6);
        accepted("pass", TallySticks::pass, 2);
        accepted("undo", TallySticks::undo, 3);
        accepted("years", x -> x.years(0, 1), 0);
    }

    /** What tells 0 or NONE, and is no refusal. */
    private static void acceptedNoughts() {
        accepted("force", x -> x.force(NONE), 0);
        accepted("force", x -> x.force(NONE) + x.force(0), -1);
        accepted("image", x -> x.image(0), 0);
        accepted("back", x -> x.back(0), 0);
        accepted("give", x -> x.give(2, 2), 0);
        accepted("terms", x -> x.terms(2, 9), 0);
        accepted("orders", x -> Check.orders(x, "pass if 1=2"), 0);
        accepted("row", x -> {
            Check.put(x, "\u0001");
            return x.row();
        }, 0);
        accepted("undo", x -> {
            x.give(1, 0);
            return x.undo();
        }, 0);
    }

    /** NONE and NOTHING of the calls that status() does not name are no refusals. */
    private static void noRefusalAtAll() {
        TallySticks x = world();
        x.back(1);
        String was = Check.seen(x);
        int all = countedAll(x);
        is("of", x.of(3, 0), -1000000);
        int told = x.at(9, 0) + x.half(9, 0) + x.end(99) + x.asks(9, 9) + x.fit(9, 9, 9) + x.match(99) + x.apart(2);
        told += x.told(9, 0, 0) + x.settle(99) + x.ring(99) + x.chain(0, 0) + x.calls(99) + x.drawn(99, 0) + x.count(16);
        is("NONE of fourteen", told, -14);
        is("38: the status of the latest of those it names", x.status(), -2);
        is("37: none counted", countedAll(x), all);
        CHECK.same("all is as it was", Check.seen(x), was);
        for (int i = 0; i < 20; i++) {
            x.feed(0, 0, 0, 0, 0);
        }
        is("9: no more than 400", x.feed(0, 0, 0, 0, 0), NONE);
        is("38: nor feed()", x.status(), -2);
        is("37: none counted", countedAll(x), all);
        x.end(0);
        x.pass();
        x.at(9, 9);
        is("38: 0 stays, too", x.status(), 0);
    }

    private static void countNumbers() {
        TallySticks x = world();
        int[] want = {3, 4, 2, 1, 1, 2, 0, 1, 1, 1, 0, 1, 0, 1, 3, 0};
        is("37: count(-1)", x.count(-1), NONE);
        for (int what = 0; what < 16; what++) {
            is("37: count(" + what + ")", x.count(what), want[what]);
        }
        is("37: count(16)", x.count(16), NONE);
        is("38: count() is none of those", x.status(), -6);
    }

    private static void countOfMany() {
        TallySticks x = new TallySticks();
        for (int i = 1; i <= 60; i++) {
            x.person(-1);
            x.call(0);
            x.undo();
            x.row();
            is("37: so many by -1", x.count(7), i);
        }
        is("37: by -2, -3, -5, -6", x.count(8) * 1000000 + x.count(9) * 10000 + x.count(10) * 100 + x.count(11), 60600060);
        x.image(0);
        x.person(-1);
        x.back(0);
        is("37: IMAGES do not keep that", x.count(7), 61);
    }

    private static void statusOfTheLatest() {
        TallySticks x = new TallySticks();
        is("38: ahead of any", x.status(), 0);
        x.count(99);
        is("38: still", x.status(), 0);
        x.undo();
        is("38: by -3", x.status(), -3);
        x.call(0);
        is("38: the latest by -2", x.status(), -2);
        x.status();
        is("38: asking changes nothing", x.status(), -2);
        x.pass();
        is("38: 0 if it was not", x.status(), 0);
    }

    private static void imageNumbers() {
        TallySticks x = new TallySticks();
        is("36: 0 was not kept", x.back(0), -2);
        is("36: 1 was not kept", x.back(1), -2);
        is("36: -1", x.back(-1), -1);
        is("36: 2", x.back(2), -1);
        is("35: -1", x.image(-1), -1);
        is("35: 2", x.image(2), -1);
        is("35: least", x.image(Integer.MIN_VALUE), -1);
        is("35: greatest", x.image(Integer.MAX_VALUE), -1);
        is("36: least", x.back(Integer.MIN_VALUE), -1);
        is("36: greatest", x.back(Integer.MAX_VALUE), -1);
        is("35: 1", x.image(1), 0);
        is("36: 0 was not kept", x.back(0), -2);
        is("36: 1 was", x.back(1), 0);
        is("35: 0", x.image(0), 0);
        is("36: 0 was", x.back(0), 0);
        is("37: by -1", x.count(7), 8);
        is("37: by -2", x.count(8), 3);
    }

    private static void imageKeptAnew() {
        TallySticks x = new TallySticks();
        x.person(5);
        x.image(0);
        x.person(6);
        x.image(0);
        x.person(7);
        x.back(0);
        is("35: the latest of that number", x.count(0), 2);
        x.image(1);
        x.person(8);
        x.image(0);
        x.back(1);
        is("35: the other is another", x.count(0), 2);
        x.back(0);
        is("35: the one", x.of(2, 0), 8);
    }

    private static void imageKeepsAll() {
        TallySticks x = world();
        x.undo();
        x.undo();
        x.image(1);
        String was = Check.seen(x).replaceAll(" (count5|count6|fault|stopped|chips)=[^ ]*", "");
        x.person(9);
        x.stick(3, 0, 9, 9, 0, 0);
        x.foil(7, 7);
        x.terms(0, 44);
        x.terms(1, 11);
        x.terms(2, 8);
        Check.law(x, "pays 8");
        x.force(1);
        x.give(0, 0);
        x.give(1, 0);
        x.shave(2, 3);
        x.call(3);
        x.image(0);
        x.back(1);
        CHECK.same("36: all that it keeps is as it was then", Check.seen(x)
                .replaceAll(" (count5|count6|fault|stopped|chips)=[^ ]*", ""), was);
        x.back(0);
        is("36: PEOPLE, STICKS, FOILS, LAWS", x.count(0) * 1000 + x.count(1) * 100 + x.count(2) * 10 + x.count(4), 4532);
        is("36: TERMS", x.count(13) * 1000 + x.count(14) * 10 + x.count(15), 44118);
        is("36: in FORCE", x.count(12), 1);
        is("36: PAID", x.at(0, 6) * 100 + x.at(1, 1) * 10 + x.at(3, 6), 101);
        is("36: SUM", x.at(2, 2), 397);
        is("36: PURSES", x.of(0, 0) * 1000 + x.of(2, 0), 95305);
    }

    /** Where another STICK, FOIL, LAW of the same number was made since, it is the one of then. */
    private static void imagesHaveTheirOwn() {
        TallySticks x = new TallySticks();
        x.image(1);
        x.person(11);
        x.person(12);
        x.person(13);
        x.stick(0, 1, 2, 3, 1, 5);
        x.foil(6, 7);
        Check.law(x, "pays 8; wears 9");
        x.force(0);
        x.image(0);
        String was = Check.seen(x);
        x.back(1);
        x.person(21);
        x.person(22);
        x.person(23);
        x.stick(2, 0, 4, 5, 2, 6);
        x.foil(8, 9);
        Check.law(x, "pays 1; wears 2; bars");
        x.force(0);
        x.give(0, 1);
        x.give(0, 2);
        x.back(0);
        CHECK.same("36: all of it as it was then", Check.seen(x), was);
    }

    private static void imageKeepsNot() {
        TallySticks x = world();
        x.orders();
        x.image(0);
        Check.put(x, "\u0001\u0010");
        x.row();
        Check.orders(x, "pass; pass; call 9");
        Check.law(x, "pays +");
        x.years(0, 1);
        x.years(5, 60);
        int purse = x.drawn(0, 0);
        Check.put(x, "abcde");
        int refusals = countedAll(x);
        x.back(0);
        is("IV: not the TAPE", x.count(6), 5);
        is("IV: not FAULT", x.fault(), 5);
        is("IV: not CHIPS", x.chips(), 1);
        is("IV: not where ORDERS stopped", x.stopped(), 2);
        is("IV: not the latest YEARS", x.drawn(0, 0), purse);
        is("37: not how many were REFUSED", countedAll(x), refusals);
        is("38: back() was not REFUSED", x.status(), 0);
    }

    private static void backForgetsUndo() {
        TallySticks x = world();
        x.image(1);
        is("35: image() leaves it", x.count(5), 2);
        x.pass();
        is("36: back", x.back(1), 0);
        is("IV: nothing, behind back()", x.count(5), 0);
        is("23: nothing", x.undo(), -3);
        is("37: DAY of then", x.count(13), 1);
        x.pass();
        is("36: REFUSED", x.back(2), -1);
        is("23: that one is still there", x.undo(), 3);
    }

    private static void imagesStay() {
        TallySticks x = world();
        for (int i = 0; i < 3; i++) {
            x.terms(0, 5);
            x.person(5);
            x.give(1, 0);
            is("36: back", x.back(0), 0);
            is("36: DAY of then", x.count(13), 0);
            is("36: PEOPLE of then", x.count(0), 3);
            is("36: who held it then", x.at(1, 1), 2);
        }
        is("36: a new LAW 0", Check.law(x, "pays 3"), 0);
        x.force(0);
        is("36: it is asked", x.at(1, 7), 3);
        x.image(1);
        x.back(0);
        is("36: not in FORCE then", x.count(12), NONE);
        is("36: no LAW then", x.count(4), 0);
        x.back(1);
        is("36: its own", x.at(1, 7), 3);
    }

    private static void imageOfFull() {
        TallySticks x = full();
        String was = Check.seen(x).replaceAll(" count5=[^ ]*", "");
        x.image(0);
        x.back(0);
        CHECK.same("36: six, ten, ten, six", Check.seen(x).replaceAll(" count5=[^ ]*", ""), was);
        is("36: no room for a LAW", Check.law(x, "bars"), -5);
        x.image(1);
        TallySticks y = world();
        y.image(1);
        for (int i = 0; i < 10; i++) {
            y.person(9);
            y.foil(1, 1);
        }
        y.back(1);
        is("36: there is room again", y.person(9), 3);
        is("36: there is room again", y.foil(1, 1), 2);
    }
}
