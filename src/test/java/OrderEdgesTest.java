import java.util.Collections;

/** Terms II of ORDERS, and promises 14 to 16: run wholly or not at all, each time asked anew; what the words tell at an edge. */
public final class OrderEdgesTest {
    private static final int NONE = -1;
    private static final Check CHECK = new Check();

    public static void main(String[] args) {
        noneRun();
        emptied();
        timesEachAsked();
        brokenIsNotRun();
        brokenSumEnds();
        refusedAsGive();
        refusedAsCall();
        refusedAsShave();
        refusedAsPass();
        allOrNothing();
        allOrNothingOfTimes();
        undosComeBack();
        imagesStay();
        done();
        latestOfNone();
        latestOfCalls();
        purseHolderSumAsTheyStand();
        lawsWithinOrders();
        stoppedAt();
        mostThatCanRun();
        oneRefusal();
        CHECK.finish("OrderEdgesTest");
    }

    private static void is(String call, long got, long want) {
        CHECK.due(call, got, want);
    }

    private static String many(String text, String between, int times) {
        return String.join(between, Collections.nCopies(times, text));
    }

    /** 100, 200, 300 in PURSES; 0 owes 1 50, 1 owes 2 60 on day 2. */
    private static TallySticks three() {
        TallySticks x = new TallySticks();
        x.person(100);
        x.person(200);
        x.person(300);
        x.stick(0, 1, 50, 0, 0, 0);
        x.stick(1, 2, 60, 1, 1, 2);
        return x;
    }

    private static void cant(String why, String text) {
        TallySticks x = three();
        x.pass();
        String was = Check.seen(x);
        is(why + ": '" + text + "' can't be", Check.orders(x, text), -3);
        is(why + ": which", x.stopped(), 0);
        is(why + ": status", x.status(), -3);
        is(why + ": by -3", x.count(9), 1);
        is(why + ": not by another", x.count(7) + x.count(8) + x.count(10) + x.count(11), 0);
        CHECK.same(why + ": all is as it was", Check.seen(x).replace("stopped=0", "stopped=-1"), was);
    }

    private static void noneRun() {
        TallySticks x = three();
        String was = Check.seen(x);
        is("none were run", Check.orders(x, "pass times 20 if 1=2; call 9 if 1=2; give 9 to 9 if 1=2; shave 9 by 0 if 1=2"), 0);
        is("that is not REFUSED", x.status(), 0);
        is("none can be undone", x.undo(), -3);
        CHECK.same("all is as it was", Check.seen(x), was);
    }

    private static void emptied() {
        TallySticks x = three();
        is("run", Check.orders(x, "pass"), 1);
        is("the TAPE is empty then", x.count(6), 0);
        is("can't be", Check.orders(x, "call 9"), -3);
        is("the TAPE is empty then", x.count(6), 0);
        is("can't be read", Check.orders(x, "call"), -6);
        is("the TAPE is empty then", x.count(6), 0);
        is("an empty TEXT", x.orders(), -6);
        is("all three were counted", x.count(9) * 10 + x.count(11), 12);
    }

    private static void timesEachAsked() {
        TallySticks x = three();
        is("its if is asked each time", Check.orders(x, "pass times 20 if day<7"), 7);
        is("DAY", x.count(13), 7);
        is("not as soon as it is not so, too", Check.orders(x, "pass times 4 if done=0; pass times 20 if done/2*2=done"), 1);
        is("DAY", x.count(13), 8);
        is("it can be so again", Check.orders(x, "shave 0 by 1 times 3 if sum 0>48; pass"), 3);
        is("SUM", x.at(0, 2), 48);
    }

    private static void brokenIsNotRun() {
        TallySticks x = three();
        is("a BROKEN if", Check.orders(x, "pass if 1/0=1; pass if 1%0=1; pass times 20 if 1000*1000*1000*2>0; call 9 if 1/0=1"), 0);
        is("is no refusal", x.status(), 0);
        is("none stopped", x.stopped(), NONE);
        is("BROKEN at one time alone", Check.orders(x, "pass times 3 if 6/[1-done]>0"), 1);
        is("DAY", x.count(13), 1);
    }

    private static void brokenSumEnds() {
        cant("a BROKEN SUM", "call 1/0");
        cant("a BROKEN SUM", "give 1/0 to 2");
        cant("the other SUM", "give 0 to 1%0");
        cant("a BROKEN SUM", "shave 1/0 by 1");
        cant("the other SUM", "shave 0 by 1000*1000*1000+1");
    }

    private static void refusedAsGive() {
        cant("no such STICK", "give 2 to 0");
        cant("STICK -1", "give 0-1 to 0");
        cant("no such PERSON", "give 0 to 3");
        cant("PERSON -1", "give 0 to latest");
        cant("who HOLDS it", "give 0 to 1");
        cant("wraps around", "give 1000*1000*1000 to 1");
    }

    private static void refusedAsCall() {
        cant("no such STICK", "call 2");
        cant("STICK -1", "call 0-1");
        cant("its DUE is behind DAY", "call 1");
        cant("wraps around", "call 0-1000*1000*1000");
    }

    private static void refusedAsShave() {
        cant("by 0", "shave 0 by 0");
        cant("by -1", "shave 0 by 0-1");
        cant("by 999", "shave 0 by 999");
        cant("by its SUM", "shave 0 by 50");
        cant("no such STICK", "shave 2 by 1");
        cant("STICK -1", "shave 0-1 by 1");
    }

    private static void refusedAsPass() {
        TallySticks x = three();
        x.terms(0, 998);
        is("DAY 998", Check.orders(x, "pass"), 1);
        is("DAY 999", Check.orders(x, "pass"), -3);
        is("DAY stays", x.count(13), 999);
        x.terms(0, 998);
        is("at 999 it can't be", Check.orders(x, "pass times 2"), -3);
        is("as it was", x.count(13), 998);
        is("the if ends it ahead of that", Check.orders(x, "pass times 2 if day<999"), 1);
    }

    private static void allOrNothing() {
        TallySticks x = three();
        x.pass();
        x.shave(1, 1);
        String was = Check.seen(x);
        is("the last can't be", Check.orders(x, "pass; shave 1 by 2; give 1 to 0; call 0; give 1 to 1; pass; give 1 to 1"), -3);
        is("16: the last", x.stopped(), 6);
        CHECK.same("all is as it was", Check.seen(x).replace("stopped=6", "stopped=-1"), was);
        is("wholly", Check.orders(x, "pass; shave 1 by 2; give 1 to 0; call 0; give 1 to 1; pass"), 6);
        is("PURSES", x.of(0, 0) * 1000000 + x.of(1, 0) * 1000 + x.of(2, 0), 50247303);
        is("PAID", x.count(3), 2);
    }

    private static void allOrNothingOfTimes() {
        TallySticks x = three();
        is("the third time can't be", Check.orders(x, "shave 0 by 20 times 3"), -3);
        is("SUM", x.at(0, 2), 50);
        is("PURSE", x.of(0, 0), 100);
        is("none can be undone", x.count(5), 0);
        is("twice can be", Check.orders(x, "shave 0 by 20 times 2"), 2);
        is("SUM", x.at(0, 2), 10);
        is("two can be undone", x.count(5), 2);
    }

    /** The 16 that are kept are those of ahead of it, though more deeds were done in it. */
    private static void undosComeBack() {
        TallySticks x = three();
        x.shave(0, 1);
        x.give(1, 0);
        x.pass();
        is("can't be behind 20 deeds", Check.orders(x, "pass times 20; call 9"), -3);
        is("three can be undone", x.count(5), 3);
        is("pass", x.undo(), 3);
        is("give", x.undo(), 0);
        is("shave", x.undo(), 2);
        is("no more", x.undo(), -3);
        is("PURSE", x.of(0, 0), 100);
        is("SUM", x.at(0, 2), 50);
        is("HOLDS", x.at(1, 1), 2);
        TallySticks y = three();
        Check.orders(y, "shave 0 by 1; pass times 15");
        is("full, and can't be", Check.orders(y, "give 0 to 2; pass times 16; call 9"), -3);
        for (int i = 0; i < 15; i++) {
            is("pass " + i, y.undo(), 3);
        }
        is("the oldest", y.undo(), 2);
        is("no more", y.undo(), -3);
        is("SUM", y.at(0, 2), 50);
        TallySticks z = three();
        Check.orders(z, "shave 0 by 1 times 8; shave 1 by done-7 times 9");
        is("16 of 17", z.count(5), 16);
        is("full of shaves, and can't be", Check.orders(z, "pass times 20; give 0 to 2; call 9"), -3);
        for (int i = 9; i >= 1; i--) {
            int was = z.at(1, 2);
            is("shave of 1", z.undo(), 2);
            is("by so much", z.at(1, 2) - was, i);
        }
        for (int i = 1; i <= 7; i++) {
            is("shave of 0", z.undo(), 2);
            is("by 1", z.at(0, 2), 42 + i);
        }
        is("no more", z.undo(), -3);
    }

    private static void imagesStay() {
        TallySticks x = three();
        x.image(0);
        x.years(0, 1);
        x.pass();
        x.image(1);
        Check.orders(x, "pass; call 9");
        is("36: the other DAY", x.back(0) + x.count(13), 0);
        is("36: the one DAY", x.back(1) + x.count(13), 1);
        Check.orders(x, "pass times 9");
        is("36: the other DAY", x.back(0) + x.count(13), 0);
        is("34: the latest YEARS", x.drawn(2, 0), 300);
    }

    private static void done() {
        TallySticks x = three();
        is("0 ahead of the first", Check.orders(x, "pass if done=0"), 1);
        is("in this TEXT alone", Check.orders(x, "pass if done=0"), 1);
        is("those that were run alone", Check.orders(x, "pass; pass if 1=2; pass if 1/0=1; pass if done=1; shave 0 by done"), 3);
        is("SUM", x.at(0, 2), 48);
        is("each time", Check.orders(x, "pass times 20 if done<11; shave 0 by done"), 12);
        is("SUM", x.at(0, 2), 37);
    }

    private static void latestOfNone() {
        TallySticks x = three();
        is("-1: none", Check.orders(x, "pass if latest=0-1"), 1);
        x.call(0);
        is("-1: none in this TEXT", Check.orders(x, "pass if latest+1=0"), 1);
        is("none that was run", Check.orders(x, "call 1 if 1=2; call 1 if 1/0=1; pass if latest<0"), 1);
        is("of a call", Check.orders(x, "call 1; pass if latest=60"), 2);
        is("anew", Check.orders(x, "pass if latest=60; pass if latest=0-1"), 1);
        is("a call of ahead of it does not matter", Check.orders(x, "pass if latest>0-1"), 0);
    }

    private static void latestOfCalls() {
        TallySticks x = three();
        Check.law(x, "pays 0 if kind=0; pays 61 if kind=1");
        x.force(0);
        is("0 is told", Check.orders(x, "call 0; pass if latest=0"), 2);
        is("the latest of two", Check.orders(x, "pass; call 1; pass if latest=61; pass if latest=61"), 4);
        TallySticks y = Check.pair(9999, 5, 1);
        Check.law(y, "pays 10*1000");
        y.force(0);
        is("9,999 is told, though less comes", Check.orders(y, "call 0; pass if latest=9*1000+999"), 2);
        is("9,999 at most", y.of(1, 0), 9999);
    }

    private static void purseHolderSumAsTheyStand() {
        TallySticks x = three();
        is("behind a shave", Check.orders(x, "shave 0 by 10; pass if sum 0=40 and purse 0=90 and purse 1=210"), 2);
        is("behind a give", Check.orders(x, "give 0 to 2; pass if holder 0=2"), 2);
        is("behind a call", Check.orders(x, "call 0; pass if purse 0=50 and purse 2=340 and sum 0=40"), 2);
        is("behind a give to who OWES it", Check.orders(x, "give 1 to 1; pass if holder 1=2"), 2);
        is("day", Check.orders(x, "pass if day=4; pass if day=5; pass if day=5"), 2);
    }

    /** Laws are asked while ORDERS run; that changes nothing of what ORDERS' words tell. */
    private static void lawsWithinOrders() {
        TallySticks x = three();
        Check.law(x, "pays day*10+kind; bars if to=2 and day=0");
        x.force(0);
        is("BARRED on DAY 0", Check.orders(x, "give 0 to 2"), -3);
        is("not on DAY 1", Check.orders(x, "pass; give 0 to 2; call 0; pass if latest=10 and done=3"), 4);
        is("PURSE", x.of(2, 0), 310);
        is("what it PAYS then", Check.orders(x, "call 1; shave 0 by 1 if latest=21 and 1=2"), 1);
        is("PURSE", x.of(2, 0), 331);
    }

    private static void stoppedAt() {
        TallySticks x = three();
        is("NONE ahead of any", x.stopped(), NONE);
        Check.orders(x, "call 9; pass");
        is("the first", x.stopped(), 0);
        Check.orders(x, "pass; call 9 times 20; pass");
        is("the second", x.stopped(), 1);
        Check.orders(x, "pass if 1=2; pass times 3; call 9");
        is("CLAUSES are numbered, not what was run", x.stopped(), 2);
        Check.law(x, "bars !");
        is("a LAW does not matter", x.stopped(), 2);
        x.call(9);
        is("nor does another call", x.stopped(), 2);
        x.image(0);
        x.back(0);
        is("nor does back()", x.stopped(), 2);
        Check.orders(x, "call");
        is("the latest could not be read", x.stopped(), NONE);
        Check.orders(x, "call 9");
        is("again", x.stopped(), 0);
        x.orders();
        is("the latest was empty", x.stopped(), NONE);
        Check.orders(x, "call 9");
        Check.orders(x, "pass");
        is("the latest was run", x.stopped(), NONE);
    }

    private static void mostThatCanRun() {
        TallySticks x = three();
        is("12 CLAUSES, 20 times each", Check.orders(x, many("pass times 20", ";", 12)), 240);
        is("DAY", x.count(13), 240);
        is("16 are kept", x.count(5), 16);
        is("done tells them", Check.orders(x, many("pass times 20", ";", 11) + ";pass if done=220"), 221);
    }

    private static void oneRefusal() {
        TallySticks x = three();
        is("the last can't be", Check.orders(x, "pass; give 9 to 9"), -3);
        is("37: one by -3", x.count(9), 1);
        is("37: none by -2", x.count(8), 0);
        is("14: run", Check.orders(x, "pass"), 1);
        is("38: not REFUSED", x.status(), 0);
        is("14: a FAULT", Check.orders(x, "pass !"), -6);
        is("38: by -6", x.status(), -6);
        is("37: one by -6", x.count(11), 1);
        is("37: DAY", x.count(13), 1);
    }
}
