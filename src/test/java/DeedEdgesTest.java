/** Terms III of deeds, and promises 19 to 23: what can be done just so, and what just not; what can be undone. */
public final class DeedEdgesTest {
    private static final int NONE = -1;
    private static final int[] WILD = {Integer.MIN_VALUE, Integer.MIN_VALUE + 1, -1000000, -2, -1, 10, 65536, 1 << 30,
        Integer.MAX_VALUE - 1, Integer.MAX_VALUE};
    private static final Check CHECK = new Check();

    public static void main(String[] args) {
        giveToWhoHolds();
        giveToWhoOwes();
        givePaid();
        giveBarred();
        giveNumbers();
        callOnItsDay();
        callPurse();
        callFull();
        callNothing();
        callMost();
        callPaid();
        callNumbers();
        shaveLimits();
        shaveSum();
        shavePurse();
        shaveFull();
        shavePaid();
        shaveNumbers();
        passLast();
        nets();
        undoNone();
        undoSixteen();
        undoOfOrders();
        undoWhatWasCut();
        undoGiveThatPaid();
        undoOnlyDeeds();
        undoRefusedOnes();
        undoRefusedOnesWhenFull();
        forgotten();
        notForgotten();
        undoIsNoDeed();
        wild();
        CHECK.finish("DeedEdgesTest");
    }

    private static void is(String call, long got, long want) {
        CHECK.due(call, got, want);
    }

    private static TallySticks three() {
        TallySticks x = Check.pair(100, 200, 50, 60);
        x.person(300);
        return x;
    }

    private static void giveToWhoHolds() {
        TallySticks x = three();
        is("19: to who HOLDS it", x.give(0, 1), -3);
        is("38: by what stands", x.status(), -3);
        is("19: to another one: who held it", x.give(0, 2), 1);
        is("19: HOLDS it then", x.at(0, 1), 2);
        is("19: to who HOLDS it now", x.give(0, 2), -3);
        is("19: back: who held it", x.give(0, 1), 2);
        is("5: not PAID so", x.at(0, 6), 0);
        is("5: who OWES it stays", x.at(0, 0), 0);
    }

    private static void giveToWhoOwes() {
        TallySticks x = three();
        is("19: to who OWES it: who held it", x.give(0, 0), 1);
        is("III: PAID so", x.at(0, 6), 1);
        is("III: who HOLDS it stays", x.at(0, 1), 1);
        is("III: nothing from PURSE", x.of(0, 0), 100);
        is("III: nothing to PURSE", x.of(1, 0), 200);
        is("III: its SUM stays", x.at(0, 2), 50);
        TallySticks y = Check.pair(0, 9999, 999);
        y.terms(0, 0);
        y.stick(1, 0, 5, 0, 0, 999);
        is("III: with an empty PURSE", y.give(0, 0), 1);
        is("III: with a full PURSE, ahead of its DUE", y.give(1, 1), 0);
        is("37: both PAID", y.count(3), 2);
        is("19: told 0 is no refusal", y.status(), 0);
    }

    private static void givePaid() {
        TallySticks x = three();
        x.call(0);
        x.give(1, 0);
        is("III: a called one", x.give(0, 2), -3);
        is("III: a called one, to who OWES it", x.give(0, 0), -3);
        is("III: one given to who OWES it", x.give(1, 2), -3);
        is("III: and again", x.give(1, 0), -3);
        is("5: who HOLDS them stays", x.at(0, 1) * 10 + x.at(1, 1), 11);
    }

    private static void giveBarred() {
        TallySticks x = three();
        Check.law(x, "bars if to=2; bars if to=owes");
        x.force(0);
        is("III: BARRED", x.give(0, 2), -3);
        is("III: BARRED from who OWES it", x.give(0, 0), -3);
        is("5: as it was", x.at(0, 1) * 10 + x.at(0, 6), 10);
        x.force(NONE);
        is("III: not without that LAW", x.give(0, 2), 1);
        x.force(0);
        is("III: who HOLDS it was not asked", x.give(0, 1), 2);
    }

    private static void giveNumbers() {
        TallySticks x = three();
        is("19: STICK -1", x.give(-1, 0), -2);
        is("19: STICK 2", x.give(2, 0), -2);
        is("19: PERSON -1", x.give(0, -1), -2);
        is("19: PERSON 3", x.give(0, 3), -2);
        x.give(0, 0);
        is("19: -2 ahead of -3 of a PAID one", x.give(0, 3), -2);
        is("19: the last of both", x.give(1, 2), 1);
        is("37: by -2", x.count(8), 5);
        is("37: none by -1", x.count(7), 0);
    }

    private static void callOnItsDay() {
        TallySticks x = Check.pair(100, 200);
        x.stick(0, 1, 5, 0, 0, 3);
        x.stick(0, 1, 5, 0, 0, 999);
        x.terms(0, 2);
        is("III: a DAY ahead of its DUE", x.call(0), -3);
        x.pass();
        is("III: on its DUE", x.call(0), 5);
        x.undo();
        x.pass();
        is("III: a DAY behind its DUE", x.call(0), 5);
        x.terms(0, 998);
        is("III: DUE 999 on DAY 998", x.call(1), -3);
        x.pass();
        is("III: DUE 999 on DAY 999", x.call(1), 5);
    }

    private static void callPurse() {
        TallySticks x = Check.pair(49, 0, 50);
        is("III: one less than it PAYS", x.call(0), -3);
        is("3: as it was", x.of(0, 0) * 100 + x.of(1, 0), 4900);
        is("5: as it was", x.at(0, 6), 0);
        TallySticks y = Check.pair(50, 0, 50);
        is("III: as much as it PAYS", y.call(0), 50);
        is("3: the PURSE is empty", y.of(0, 0), 0);
        is("3: that goes", y.of(1, 0), 50);
        TallySticks z = Check.pair(50, 0, 999);
        Check.law(z, "pays 51; pays 50 if mood=1");
        z.force(0);
        is("III: not its SUM: one less than it PAYS", z.call(0), -3);
        z.terms(2, 1);
        is("III: not its SUM: as much as it PAYS", z.call(0), 50);
        is("5: SUM stays", z.at(0, 2), 999);
    }

    private static void callFull() {
        TallySticks x = Check.pair(100, 9949, 50);
        is("III: 9,999 just so", x.call(0), 50);
        is("3: 9,999", x.of(1, 0), 9999);
        TallySticks y = Check.pair(100, 9950, 50);
        is("III: 9,999 at most there: it PAYS all the same", y.call(0), 50);
        is("3: 9,999 at most", y.of(1, 0), 9999);
        is("3: what goes, goes", y.of(0, 0), 50);
        TallySticks z = Check.pair(100, 9999, 50);
        is("III: into a full PURSE", z.call(0), 50);
        is("3: still full", z.of(1, 0), 9999);
        is("3: what goes, goes", z.of(0, 0), 50);
    }

    private static void callNothing() {
        TallySticks x = Check.pair(0, 7, 50);
        Check.law(x, "pays 0");
        x.force(0);
        is("III: an empty PURSE has 0", x.call(0), 0);
        is("38: told 0 is no refusal", x.status(), 0);
        is("5: PAID", x.at(0, 6), 1);
        is("3: PURSES", x.of(0, 0) * 10 + x.of(1, 0), 7);
        is("23: it can be undone", x.undo(), 1);
        is("5: not PAID", x.at(0, 6), 0);
    }

    private static void callMost() {
        TallySticks x = Check.pair(9999, 0, 1);
        Check.law(x, "pays 10*1000");
        x.force(0);
        is("II: PAYS 9,999 at most, a PURSE has that", x.call(0), 9999);
        is("3: all of it", x.of(0, 0) * 10000 + x.of(1, 0), 9999);
        TallySticks y = Check.pair(9998, 0, 1);
        Check.law(y, "pays 10*1000");
        y.force(0);
        is("III: one less", y.call(0), -3);
    }

    private static void callPaid() {
        TallySticks x = three();
        x.call(0);
        x.give(1, 0);
        is("III: a called one", x.call(0), -3);
        is("III: one given to who OWES it", x.call(1), -3);
        is("3: once", x.of(0, 0), 50);
        is("37: by -3", x.count(9), 2);
    }

    private static void callNumbers() {
        TallySticks x = three();
        is("20: STICK -1", x.call(-1), -2);
        is("20: STICK 2", x.call(2), -2);
        is("20: STICK 1", x.call(1), 60);
        is("37: by -2", x.count(8), 2);
    }

    private static void shaveLimits() {
        TallySticks x = Check.pair(9999, 0, 999, 999);
        is("21: by 0", x.shave(0, 0), -1);
        is("21: by -1", x.shave(0, -1), -1);
        is("21: by 999", x.shave(0, 999), -1);
        is("21: by 1", x.shave(0, 1), 998);
        is("21: by 998", x.shave(1, 998), 1);
        is("37: by -1", x.count(7), 3);
        is("3: so much goes", x.of(1, 0), 999);
    }

    private static void shaveSum() {
        TallySticks x = Check.pair(9999, 0, 50);
        is("III: by its SUM", x.shave(0, 50), -3);
        is("III: by more", x.shave(0, 51), -3);
        is("III: by less than its SUM", x.shave(0, 49), 1);
        is("III: a SUM of 1 can't be", x.shave(0, 1), -3);
        is("5: SUM 1", x.at(0, 2), 1);
        is("5: not PAID", x.at(0, 6), 0);
        TallySticks y = Check.pair(9999, 0, 999);
        is("III: 998 of 999", y.shave(0, 998), 1);
        TallySticks z = Check.pair(9999, 0, 998);
        is("III: 998 of 998", z.shave(0, 998), -3);
    }

    private static void shavePurse() {
        TallySticks x = Check.pair(19, 0, 50);
        is("III: one more than the PURSE has", x.shave(0, 20), -3);
        is("3: as it was", x.of(0, 0) * 100 + x.of(1, 0), 1900);
        is("5: as it was", x.at(0, 2), 50);
        is("III: as much as the PURSE has", x.shave(0, 19), 31);
        is("3: that goes", x.of(0, 0) * 100 + x.of(1, 0), 19);
    }

    private static void shaveFull() {
        TallySticks x = Check.pair(100, 9989, 50);
        is("III: 9,999 just so", x.shave(0, 10), 40);
        is("3: 9,999", x.of(1, 0), 9999);
        is("III: 9,999 at most there", x.shave(0, 10), 30);
        is("3: still 9,999", x.of(1, 0), 9999);
        is("3: what goes, goes", x.of(0, 0), 80);
    }

    private static void shavePaid() {
        TallySticks x = three();
        x.call(0);
        x.give(1, 0);
        is("III: a called one", x.shave(0, 1), -3);
        is("III: one given to who OWES it", x.shave(1, 1), -3);
        TallySticks y = Check.pair(100, 0);
        y.stick(0, 1, 50, 0, 0, 999);
        is("III: ahead of its DUE", y.shave(0, 1), 49);
        Check.law(y, "pays 5; bars");
        y.force(0);
        is("III: by no LAW", y.shave(0, 10), 39);
    }

    private static void shaveNumbers() {
        TallySticks x = three();
        is("21: STICK -1", x.shave(-1, 1), -2);
        is("21: STICK 2", x.shave(2, 1), -2);
        is("21: -1 ahead of -2", x.shave(2, 0), -1);
        is("21: -1 ahead of -2", x.shave(-1, 999), -1);
        is("21: STICK 1", x.shave(1, 1), 59);
        x.call(0);
        is("21: -1 ahead of -3", x.shave(0, 0), -1);
        is("21: -1 ahead of -3", x.shave(0, 999), -1);
        is("21: -3", x.shave(0, 998), -3);
    }

    private static void passLast() {
        TallySticks x = three();
        is("22: the next DAY", x.pass(), 1);
        x.terms(0, 998);
        is("III: to 999", x.pass(), 999);
        is("III: at 999 it can't be", x.pass(), -3);
        is("38: by what stands", x.status(), -3);
        is("37: DAY stays", x.count(13), 999);
        is("23: the one that could be", x.undo(), 3);
        is("37: DAY", x.count(13), 998);
    }

    private static void nets() {
        TallySticks x = three();
        is("III: NET of who OWES", x.of(0, 1), -110);
        is("III: NET of who HOLDS", x.of(1, 1), 110);
        is("III: NET of no STICKS", x.of(2, 1), 0);
        x.give(0, 0);
        is("III: not PAID alone", x.of(0, 1), -60);
        is("III: HOLDS, not PAID alone", x.of(1, 1), 60);
        is("3: HOLDS, not PAID alone", x.of(1, 2), 1);
        is("3: OWES, not PAID alone", x.of(0, 3), 1);
        x.shave(1, 59);
        is("III: SUM as it is now", x.of(0, 1), -1);
        x.give(1, 0);
        is("III: all PAID", x.of(0, 1), 0);
        is("3: HOLDS none", x.of(1, 2), 0);
        is("3: OWES none", x.of(0, 3), 0);
    }

    private static void undoNone() {
        TallySticks x = three();
        is("23: there is none", x.undo(), -3);
        is("38: by -3", x.status(), -3);
        is("37: counted", x.count(9), 1);
        x.pass();
        is("37: one", x.count(5), 1);
        is("23: it is undone", x.undo(), 3);
        is("38: not REFUSED", x.status(), 0);
        is("37: none", x.count(5), 0);
        is("23: there is none any more", x.undo(), -3);
        is("37: DAY", x.count(13), 0);
    }

    private static void undoSixteen() {
        TallySticks x = three();
        is("the first", x.shave(0, 1), 49);
        for (int i = 1; i <= 15; i++) {
            x.pass();
            is("37: so many", x.count(5), i + 1);
        }
        TallySticks y = three();
        y.shave(0, 1);
        for (int i = 1; i <= 16; i++) {
            y.pass();
        }
        is("23: 16 are kept", y.count(5), 16);
        for (int i = 1; i <= 15; i++) {
            is("23: a pass", x.undo(), 3);
            is("23: a pass", y.undo(), 3);
        }
        is("23: the 16th latest", x.undo(), 2);
        is("5: SUM", x.at(0, 2), 50);
        is("23: the 16th latest", y.undo(), 3);
        is("23: not the 17th latest", y.undo(), -3);
        is("5: SUM", y.at(0, 2), 49);
        for (int i = 0; i < 40; i++) {
            y.pass();
        }
        is("23: 16 are kept", y.count(5), 16);
        for (int i = 0; i < 16; i++) {
            is("23: a pass", y.undo(), 3);
        }
        is("23: no more", y.undo(), -3);
        is("37: DAY", y.count(13), 24);
    }

    private static void undoOfOrders() {
        TallySticks x = three();
        is("14: all four", Check.orders(x, "give 0 to 2; call 1; shave 0 by 5; pass"), 4);
        is("23: by ORDERS, too", x.count(5), 4);
        is("23: pass", x.undo(), 3);
        is("23: shave", x.undo(), 2);
        is("23: call", x.undo(), 1);
        is("23: give", x.undo(), 0);
        is("3: as it was", x.of(0, 0) * 1000000 + x.of(1, 0) * 1000 + x.of(2, 0), 100200300);
        is("5: as it was", x.at(0, 1) * 100 + x.at(0, 2), 150);
        Check.orders(x, "pass times 17");
        is("37: 16 are kept", x.count(5), 16);
    }

    private static void undoWhatWasCut() {
        TallySticks x = Check.pair(100, 9990, 50, 30);
        x.call(0);
        x.shave(1, 20);
        is("3: 9,999 at most", x.of(1, 0), 9999);
        x.undo();
        is("23: still what the call made", x.of(1, 0), 9999);
        is("23: PURSE", x.of(0, 0), 50);
        x.undo();
        is("23: as it was ahead of it", x.of(1, 0), 9990);
        is("23: PURSE", x.of(0, 0), 100);
    }

    private static void undoGiveThatPaid() {
        TallySticks x = three();
        x.give(0, 2);
        x.give(0, 0);
        is("23: give", x.undo(), 0);
        is("5: not PAID", x.at(0, 6), 0);
        is("5: who held it", x.at(0, 1), 2);
        is("23: give", x.undo(), 0);
        is("5: who held it", x.at(0, 1), 1);
    }

    /** What is no deed stays. */
    private static void undoOnlyDeeds() {
        TallySticks x = three();
        x.pass();
        x.foil(1, 1);
        Check.law(x, "pays 9");
        x.force(0);
        x.feed(1 << 24, 0, 0, 0, 0);
        is("23: pass", x.undo(), 3);
        is("37: FOILS", x.count(2), 1);
        is("37: LAWS", x.count(4), 1);
        is("37: in FORCE", x.count(12), 0);
        is("37: bytes", x.count(6), 20);
        is("23: those can't be undone", x.undo(), -3);
    }

    private static void undoRefusedOnes() {
        TallySticks x = three();
        x.pass();
        x.give(0, 1);
        x.call(9);
        x.shave(0, 50);
        x.give(9, 9);
        is("37: REFUSED ones are none", x.count(5), 1);
        is("23: the one that was done", x.undo(), 3);
        is("23: no more", x.undo(), -3);
        x.call(0);
        x.call(0);
        is("23: the one that was done", x.undo(), 1);
        is("5: not PAID", x.at(0, 6), 0);
        is("23: no more", x.undo(), -3);
    }

    private static void undoRefusedOnesWhenFull() {
        TallySticks x = three();
        x.shave(0, 5);
        Check.orders(x, "pass times 15");
        is("37: 16", x.count(5), 16);
        x.give(1, 1);
        x.call(9);
        x.shave(1, 60);
        Check.orders(x, "give 0 to 2; give 1 to 1");
        is("37: 16", x.count(5), 16);
        for (int i = 0; i < 15; i++) {
            is("23: a pass", x.undo(), 3);
        }
        is("23: the oldest stays as it was", x.undo(), 2);
        is("5: SUM", x.at(0, 2), 50);
        is("3: PURSE", x.of(0, 0), 100);
    }

    private static void forgotten() {
        TallySticks x = three();
        x.image(0);
        x.pass();
        x.person(0);
        is("23: ahead of a person()", x.undo(), -3);
        is("37: none", x.count(5), 0);
        x.pass();
        x.stick(0, 1, 1, 0, 0, 0);
        is("23: ahead of a stick()", x.undo(), -3);
        x.pass();
        x.terms(2, 0);
        is("23: ahead of a terms() that changes nothing", x.undo(), -3);
        x.pass();
        x.terms(0, 500);
        is("23: ahead of a terms()", x.undo(), -3);
        x.pass();
        is("36: back", x.back(0), 0);
        is("IV: nothing, behind back()", x.undo(), -3);
        x.pass();
        is("23: what is behind them", x.undo(), 3);
    }

    private static void notForgotten() {
        TallySticks x = three();
        x.pass();
        x.person(-1);
        x.person(10000);
        x.stick(0, 0, 1, 0, 0, 0);
        x.stick(0, 9, 1, 0, 0, 0);
        x.terms(0, -1);
        x.terms(1, 13);
        x.terms(3, 0);
        x.back(0);
        x.back(2);
        is("23: REFUSED ones", x.count(5), 1);
        x.foil(1, 1);
        Check.law(x, "bars");
        x.force(0);
        x.force(NONE);
        x.image(0);
        x.years(7, 7);
        x.feed(0, 0, 0, 0, 0);
        x.row();
        x.orders();
        x.calls(NONE);
        is("23: other calls", x.count(5), 1);
        is("23: it is undone", x.undo(), 3);
        TallySticks y = Check.pair(1, 1);
        for (int i = 0; i < 4; i++) {
            y.person(1);
        }
        for (int i = 0; i < 10; i++) {
            y.stick(0, 1, 1, 0, 0, 0);
        }
        y.pass();
        y.person(1);
        y.stick(0, 1, 1, 0, 0, 0);
        is("23: REFUSED for want of room", y.undo(), 3);
    }

    private static void undoIsNoDeed() {
        TallySticks x = three();
        x.call(0);
        x.pass();
        is("23: the latest", x.undo(), 3);
        is("23: then the one ahead", x.undo(), 1);
        x.give(0, 2);
        is("23: a new one", x.undo(), 0);
        is("23: not what was undone", x.undo(), -3);
    }

    private static void wild() {
        for (int w : WILD) {
            TallySticks x = three();
            String was = Check.seen(x);
            is("19: give(" + w + ", 0)", x.give(w, 0), -2);
            is("19: give(0, " + w + ")", x.give(0, w), -2);
            is("20: call(" + w + ")", x.call(w), -2);
            is("21: shave(" + w + ", 1)", x.shave(w, 1), -2);
            is("21: shave(0, " + w + ")", x.shave(0, w), w == 10 ? 40 : -1);
            is("21: shave(" + w + ", " + w + ")", x.shave(w, w), w == 10 ? -2 : -1);
            if (w != 10) {
                CHECK.same("all is as it was", Check.seen(x), was);
            }
        }
    }
}
