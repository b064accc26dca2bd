/** Each promise by hand: ordinary inputs, the edges that the document names, and wrong inputs. */
public final class PromisesTest {
    private static final int NONE = -1;
    private static final int NOTHING = -1000000;
    private static final Check CHECK = new Check();

    public static void main(String[] args) {
        newObject();
        person();
        of();
        stick();
        at();
        foilAndHalf();
        terms();
        feedAndEnd();
        rowAndChips();
        law();
        orders();
        ordersThatTellNothing();
        ordersGoBack();
        faultAndStopped();
        force();
        asks();
        give();
        call();
        shave();
        pass();
        undo();
        undoForgets();
        fit();
        match();
        odd();
        apart();
        told();
        settle();
        ring();
        chain();
        calls();
        callsByLaw();
        years();
        yearsOnPaper();
        drawn();
        imageAndBack();
        count();
        status();
        CHECK.finish("PromisesTest");
    }

    private static void due(String call, long got, long want) {
        CHECK.due(call, got, want);
    }

    private static TallySticks people(int... purses) {
        TallySticks x = new TallySticks();
        for (int purse : purses) {
            x.person(purse);
        }
        return x;
    }

    private static void newObject() {
        due("NONE", TallySticks.NONE, -1);
        due("NOTHING", TallySticks.NOTHING, -1000000);
        TallySticks x = new TallySticks();
        for (int what = 0; what <= 11; what++) {
            due("1: count(" + what + ") of a new one", x.count(what), 0);
        }
        due("1: no law in force", x.count(12), NONE);
        due("1: day", x.count(13), 0);
        due("1: damp", x.count(14), 2);
        due("1: mood", x.count(15), 0);
        due("1: status", x.status(), 0);
        due("1: fault", x.fault(), NONE);
        due("1: stopped", x.stopped(), NONE);
        due("1: chips", x.chips(), 0);
        due("1: drawn", x.drawn(0, 0), NONE);
        due("1: drawn stick", x.drawn(0, 1), NONE);
        due("1: apart", x.apart(1), 0);
        due("1: settle", x.settle(0), 0);
        due("1: ring", x.ring(0), NONE);
        due("1: chain", x.chain(0, 1), NONE);
        due("1: calls", x.calls(NONE), 0);
    }

    private static void person() {
        TallySticks x = new TallySticks();
        due("2: person(-1)", x.person(-1), -1);
        due("2: person(10000)", x.person(10000), -1);
        for (int i = 0; i < 6; i++) {
            due("2: person " + i, x.person(i == 5 ? 9999 : i), i);
        }
        due("2: no room", x.person(5), -5);
        due("2: the number first", x.person(-5), -1);
        due("2: purse", x.of(5, 0), 9999);
        due("2: count", x.count(0), 6);
    }

    private static void of() {
        TallySticks x = people(7, 8, 9);
        x.stick(0, 1, 100, 0, 0, 0);
        x.stick(0, 2, 20, 0, 0, 0);
        x.stick(1, 0, 5, 0, 0, 0);
        due("3: purse", x.of(1, 0), 8);
        due("3: net 0", x.of(0, 1), -115);
        due("3: net 1", x.of(1, 1), 95);
        due("3: net 2", x.of(2, 1), 20);
        due("3: holds", x.of(0, 2), 1);
        due("3: owes", x.of(0, 3), 2);
        x.give(1, 0);
        due("3: net without the paid", x.of(0, 1), -95);
        due("3: owes without the paid", x.of(0, 3), 1);
        due("3: holds without the paid", x.of(2, 2), 0);
        due("3: what -1", x.of(0, -1), NOTHING);
        due("3: what 4", x.of(0, 4), NOTHING);
        due("3: person -1", x.of(-1, 0), NOTHING);
        due("3: person 3", x.of(3, 1), NOTHING);
    }

    private static void stick() {
        TallySticks x = people(1, 2);
        due("4: alike", x.stick(1, 1, 5, 5, 0, 0), -1);
        due("4: alike, not there", x.stick(9, 9, 5, 5, 0, 0), -1);
        due("4: sum 0", x.stick(0, 1, 0, 0, 0, 0), -1);
        due("4: sum 1000", x.stick(0, 1, 1000, 0, 0, 0), -1);
        due("4: grain -1", x.stick(0, 1, 1, -1, 0, 0), -1);
        due("4: grain 4096", x.stick(0, 1, 1, 4096, 0, 0), -1);
        due("4: kind -1", x.stick(0, 1, 1, 0, -1, 0), -1);
        due("4: kind 4", x.stick(0, 1, 1, 0, 4, 0), -1);
        due("4: due -1", x.stick(0, 1, 1, 0, 0, -1), -1);
        due("4: due 1000", x.stick(0, 1, 1, 0, 0, 1000), -1);
        due("4: owes 2", x.stick(2, 1, 1, 0, 0, 0), -2);
        due("4: holds -1", x.stick(0, -1, 1, 0, 0, 0), -2);
        due("4: the number first", x.stick(2, 1, 0, 0, 0, 0), -1);
        for (int i = 0; i < 10; i++) {
            due("4: stick " + i, x.stick(0, 1, 999, 4095, 3, 999), i);
        }
        due("4: no room", x.stick(0, 1, 1, 0, 0, 0), -5);
        due("4: there first", x.stick(0, 5, 1, 0, 0, 0), -2);
    }

    private static void at() {
        TallySticks x = people(50, 60, 70);
        x.stick(2, 1, 345, 4000, 3, 12);
        int[] want = {2, 1, 345, 4000, 3, 12, 0, 345, 2};
        for (int what = 0; what < want.length; what++) {
            due("5: at(0, " + what + ")", x.at(0, what), want[what]);
        }
        due("5: what -1", x.at(0, -1), NONE);
        due("5: what 9", x.at(0, 9), NONE);
        due("5: stick 1", x.at(1, 0), NONE);
        due("5: stick -1", x.at(-1, 0), NONE);
        x.terms(1, 11);
        due("5: worn in damp", x.at(0, 8), 11);
        Check.law(x, "pays 1000 * 1000; wears 0 - 5; wears 13 if mood = 1");
        x.force(0);
        due("5: pays the nearest", x.at(0, 7), 9999);
        due("5: worn the nearest", x.at(0, 8), 0);
        x.terms(2, 1);
        due("5: worn at most", x.at(0, 8), 12);
        Check.law(x, "pays 0 - 1");
        x.force(1);
        due("5: pays no less than 0", x.at(0, 7), 0);
        x.give(0, 2);
        due("5: paid", x.at(0, 6), 1);
        due("5: what a paid one pays", x.at(0, 7), 0);
    }

    private static void foilAndHalf() {
        TallySticks x = new TallySticks();
        due("6: grain -1", x.foil(-1, 1), -1);
        due("6: grain 4096", x.foil(4096, 1), -1);
        due("6: sum 0", x.foil(0, 0), -1);
        due("6: sum 1000", x.foil(0, 1000), -1);
        for (int i = 0; i < 10; i++) {
            due("6: foil " + i, x.foil(4095 - i, 999 - i), i);
        }
        due("6: no room", x.foil(0, 1), -5);
        due("6: the number first", x.foil(0, 0), -1);
        due("7: grain", x.half(9, 0), 4086);
        due("7: sum", x.half(9, 1), 990);
        due("7: what 2", x.half(0, 2), NONE);
        due("7: what -1", x.half(0, -1), NONE);
        due("7: foil 10", x.half(10, 0), NONE);
        due("7: foil -1", x.half(-1, 0), NONE);
    }

    private static void terms() {
        TallySticks x = new TallySticks();
        due("8: day", x.terms(0, 999), 0);
        due("8: day was", x.terms(0, 3), 999);
        due("8: damp", x.terms(1, 12), 2);
        due("8: mood", x.terms(2, 9), 0);
        due("8: day 1000", x.terms(0, 1000), -1);
        due("8: damp 13", x.terms(1, 13), -1);
        due("8: mood 10", x.terms(2, 10), -1);
        due("8: below", x.terms(0, -1), -1);
        due("8: what 3", x.terms(3, 0), -1);
        due("8: what -1", x.terms(-1, 0), -1);
        due("8: they stay", x.count(13) * 10000 + x.count(14) * 100 + x.count(15), 31209);
    }

    private static void feedAndEnd() {
        TallySticks x = new TallySticks();
        due("10: end(0) of an empty one", x.end(0), 0);
        due("10: end(1) of an empty one", x.end(1), NONE);
        for (int i = 1; i <= 20; i++) {
            due("9: feed " + i, x.feed(0x01020304, -1, i, 0, 5), 20 * i);
        }
        due("9: no more than 400", x.feed(0, 0, 0, 0, 0), NONE);
        due("9: nothing came", x.count(6), 400);
        due("10: end(-1)", x.end(-1), NONE);
        due("10: end(401)", x.end(401), NONE);
        due("10: end(400)", x.end(400), 400);
        due("10: end(381)", x.end(381), 381);
        due("9: still too many", x.feed(0, 0, 0, 0, 0), NONE);
        due("10: end(380)", x.end(380), 380);
        due("9: just as many", x.feed(0, 0, 0, 0, 0), 400);
        due("10: end(5)", x.end(5), 5);
        due("9: the first of five bytes are 1, 2, 3", x.row(), 1);
        due("9: 1 * 16 + 2", x.half(0, 0), 18);
        due("9: 3", x.half(0, 1), 3);
        x.feed(0xFF0FFF00, -1, 0, 0, 0);
        x.end(3);
        due("9: bytes to 255", x.row(), 1);
        due("9: 255 * 16 + 15", x.half(1, 0), 4095);
        due("9: 255", x.half(1, 1), 255);
    }

    private static void rowAndChips() {
        TallySticks x = new TallySticks();
        due("11: empty", x.row(), -6);
        due("12: ahead of any", x.chips(), 0);
        Check.put(x, "\u0001\u0010\u0005\u0001\u000f\u0005\u0001\u0001\u0000\u0001");
        due("11: one foil", x.row(), 1);
        due("12: second over 15, sum 0, an end within", x.chips(), 3);
        due("11: the tape is empty then", x.count(6), 0);
        due("11: empty again", x.row(), -6);
        due("12: as the one that was not refused", x.chips(), 3);
        StringBuilder many = new StringBuilder();
        for (int i = 0; i < 12; i++) {
            many.append("\u0000\u0000\u0001");
        }
        Check.put(x, many.toString());
        due("11: as many as there is room for", x.row(), 9);
        due("12: no room", x.chips(), 3);
        Check.put(x, "\u0000\u0000");
        due("11: none", x.row(), 0);
        due("11: that is not refused", x.status(), 0);
        due("12: one", x.chips(), 1);
    }

    private static void law() {
        TallySticks x = new TallySticks();
        due("13: empty", x.law(), -6);
        due("13: its fault", x.fault(), 0);
        due("13: blanks alone", Check.law(x, "   "), -6);
        due("13: fault at the end", x.fault(), 3);
        due("13: the tape is empty behind a fault", x.count(6), 0);
        for (int i = 0; i < 6; i++) {
            due("13: law " + i, Check.law(x, "pays " + i), i);
            due("13: the tape is empty", x.count(6), 0);
        }
        Check.law(x, "pays");
        due("13: no room is ahead of reading", x.status(), -5);
        due("13: the fault is that of the one read", x.fault(), NONE);
        due("13: the tape is empty, too", x.count(6), 0);
        due("13: no room for an empty one", x.law(), -5);
        due("13: laws", x.count(4), 6);
    }

    private static void orders() {
        TallySticks x = people(100, 100, 100);
        x.stick(0, 1, 50, 0, 0, 1);
        x.stick(1, 2, 30, 0, 0, 0);
        due("14: empty", x.orders(), -6);
        due("14: all kinds", Check.orders(x, "pass;call 0;shave 1 by 10;give 1 to 0"), 4);
        due("14: the tape is empty", x.count(6), 0);
        due("14: passed", x.count(13), 1);
        due("14: called", x.at(0, 6), 1);
        due("14: shaved", x.at(1, 2), 20);
        due("14: given", x.at(1, 1), 0);
        due("14: purse 0", x.of(0, 0), 50);
        due("14: purse 1", x.of(1, 0), 140);
        due("14: purse 2", x.of(2, 0), 110);
        due("14: none run", Check.orders(x, "pass if day = 9"), 0);
        due("14: asked each time", Check.orders(x, "pass times 20 if day < 5"), 4);
        due("14: done counts", Check.orders(x, "pass times 20 if done < 3"), 3);
        due("14: a broken if is not run", Check.orders(x, "pass if 1 / 0 = 1; pass"), 1);
        due("14: a broken sum can't be", Check.orders(x, "pass; call 1 / 0"), -3);
        due("14: which", x.stopped(), 1);
        due("14: day", x.count(13), 9);
        due("14: latest of a call", Check.orders(x, "call 1; pass if latest = 20; pass if latest = 21"), 2);
        due("14: latest -1 ahead of a call", Check.orders(x, "pass if latest < 0; pass if 0 - latest = 1"), 2);
        due("14: latest starts anew", Check.orders(x, "pass if latest = 20"), 0);
        due("14: purse, holder, sum", Check.orders(x, "pass times 2 if purse 0 = 70 and holder 1 = 0 and sum 1 = 20"), 2);
        due("14: -1 without", Check.orders(x, "pass if purse 3 + holder 2 + sum 9 + 3 = 0"), 1);
    }

    /** A deed that tells 0 was done like any other. */
    private static void ordersThatTellNothing() {
        TallySticks x = people(0, 0, 0);
        x.stick(1, 0, 50, 0, 0, 0);
        Check.law(x, "pays 0");
        x.force(0);
        due("14: give from 0, call for 0", Check.orders(x, "give 0 to 2; call 0; pass if latest = 0"), 3);
        due("14: given", x.at(0, 1), 2);
        due("14: all three can be undone", x.undo() * 100 + x.undo() * 10 + x.undo(), 310);
        due("19: give from 0", x.give(0, 2), 0);
        due("20: call for 0", x.call(0), 0);
        due("23: both are kept", x.count(5), 2);
        x.undo();
        due("33: called for 0", x.years(0, 1), 1);
        due("32: called for 0", x.calls(NONE), 1);
    }

    private static void ordersGoBack() {
        TallySticks x = people(100, 100);
        x.stick(0, 1, 50, 0, 0, 0);
        x.stick(0, 1, 20, 0, 0, 0);
        x.pass();
        x.shave(0, 5);
        due("14: ends by what can't be", Check.orders(x, "pass times 20; give 0 to 0; shave 1 by 3; call 1; call 0"), -3);
        due("16: which", x.stopped(), 4);
        due("14: day", x.count(13), 1);
        due("14: purse 0", x.of(0, 0), 95);
        due("14: purse 1", x.of(1, 0), 105);
        due("14: sum", x.at(1, 2), 20);
        due("14: paid", x.count(3), 0);
        due("14: what can be undone", x.count(5), 2);
        due("14: one refusal", x.count(9), 1);
        due("14: undo shave", x.undo(), 2);
        due("14: undo pass", x.undo(), 3);
        due("14: purse as at first", x.of(0, 0), 100);
        due("14: no such stick", Check.orders(x, "call 2"), -3);
        due("14: no such person", Check.orders(x, "give 0 to 2"), -3);
        due("14: by 0", Check.orders(x, "shave 0 by 0"), -3);
        due("14: by 999", Check.orders(x, "shave 0 by 999"), -3);
        due("14: below 0", Check.orders(x, "call 0 - 1"), -3);
        due("14: no -1, no -2", x.count(7) + x.count(8), 0);
        due("14: by laws", Check.law(x, "bars"), 0);
        x.force(0);
        due("14: barred", Check.orders(x, "give 0 to 0"), -3);
    }

    private static void faultAndStopped() {
        TallySticks x = people(5, 5);
        x.stick(0, 1, 9, 0, 0, 0);
        Check.orders(x, "pass; call 0");
        due("16: stopped at", x.stopped(), 1);
        Check.law(x, "pays !");
        due("15: of a law", x.fault(), 5);
        due("16: a law does not matter", x.stopped(), 1);
        Check.orders(x, "pass; pass pass");
        due("15: of orders", x.fault(), 11);
        due("16: the latest was not run", x.stopped(), NONE);
        Check.orders(x, "call 0");
        due("15: none, though it can't be", x.fault(), NONE);
        due("16: the first", x.stopped(), 0);
        Check.orders(x, "pass");
        due("16: none", x.stopped(), NONE);
        Check.law(x, "pays (");
        due("15: again", x.fault(), 5);
        Check.law(x, "pays 0");
        due("15: none of a law", x.fault(), NONE);
    }

    private static void force() {
        TallySticks x = people(100, 0);
        x.stick(0, 1, 50, 0, 0, 0);
        due("17: no law", x.force(0), -2);
        due("17: none", x.force(NONE), NONE);
        due("17: that is not refused", x.status(), 0);
        Check.law(x, "pays 1");
        Check.law(x, "pays 2");
        due("17: none yet in force", x.at(0, 7), 50);
        due("17: the second", x.force(1), NONE);
        due("17: not refused", x.status(), 0);
        due("17: pays", x.at(0, 7), 2);
        due("17: the first", x.force(0), 1);
        due("17: pays", x.at(0, 7), 1);
        due("17: law 2", x.force(2), -2);
        due("17: law -2", x.force(-2), -2);
        due("17: as it was", x.count(12), 0);
        due("17: none", x.force(NONE), 0);
        due("17: pays its sum", x.at(0, 7), 50);
    }

    private static void asks() {
        TallySticks x = people(1, 2, 3);
        x.stick(0, 1, 5, 0, 2, 0);
        due("18: no law", x.asks(0, 2), 0);
        Check.law(x, "bars if to = 2; bars if to = owes and kind = 2");
        x.force(0);
        due("18: 0", x.asks(0, 0), 1);
        due("18: 1", x.asks(0, 1), 0);
        due("18: 2", x.asks(0, 2), 1);
        due("18: person 3", x.asks(0, 3), NONE);
        due("18: person -1", x.asks(0, -1), NONE);
        due("18: stick 1", x.asks(1, 0), NONE);
        due("18: stick -1", x.asks(-1, 0), NONE);
        Check.law(x, "bars if 1 / 0 = 0");
        x.force(1);
        due("18: broken", x.asks(0, 2), 0);
        Check.law(x, "bars");
        x.force(2);
        due("18: without if", x.asks(0, 1), 1);
    }

    private static void give() {
        TallySticks x = people(10, 20, 30);
        x.stick(0, 1, 5, 0, 0, 900);
        due("19: stick 1", x.give(1, 0), -2);
        due("19: stick -1", x.give(-1, 0), -2);
        due("19: person 3", x.give(0, 3), -2);
        due("19: person -1", x.give(0, -1), -2);
        due("19: who holds it", x.give(0, 1), -3);
        due("19: to another", x.give(0, 2), 1);
        due("19: holds", x.at(0, 1), 2);
        Check.law(x, "bars if to = 0");
        x.force(0);
        due("19: barred from who owes it", x.give(0, 0), -3);
        x.force(NONE);
        due("19: to who owes it", x.give(0, 0), 2);
        due("19: paid", x.at(0, 6), 1);
        due("19: who holds it stays", x.at(0, 1), 2);
        due("19: nothing from purse to purse", x.of(0, 0) * 10000 + x.of(1, 0) * 100 + x.of(2, 0), 102030);
        due("19: a paid one", x.give(0, 1), -3);
        due("19: -2 ahead of -3", x.give(0, 7), -2);
    }

    private static void call() {
        TallySticks x = people(100, 9990, 0);
        x.stick(0, 1, 60, 0, 0, 3);
        x.stick(0, 2, 41, 0, 0, 0);
        due("20: stick 2", x.call(2), -2);
        due("20: stick -1", x.call(-1), -2);
        due("20: ahead of its due", x.call(0), -3);
        x.terms(0, 3);
        due("20: on the day", x.call(0), 60);
        due("20: purse", x.of(0, 0), 40);
        due("20: 9,999 at most", x.of(1, 0), 9999);
        due("20: paid", x.call(0), -3);
        due("20: not as much", x.call(1), -3);
        due("20: as it was", x.of(0, 0), 40);
        Check.law(x, "pays purse");
        x.force(0);
        due("20: just as much", x.call(1), 40);
        due("20: empty", x.of(0, 0), 0);
        due("20: got", x.of(2, 0), 40);
        due("20: its sum stays", x.at(1, 2), 41);
        x.stick(0, 1, 5, 0, 0, 0);
        due("20: nothing to pay", x.call(2), 0);
    }

    private static void shave() {
        TallySticks x = people(100, 9990);
        x.stick(0, 1, 60, 0, 0, 500);
        x.stick(0, 1, 999, 0, 0, 0);
        due("21: by 0", x.shave(0, 0), -1);
        due("21: by 999", x.shave(1, 999), -1);
        due("21: by first", x.shave(7, 0), -1);
        due("21: stick 2", x.shave(2, 1), -2);
        due("21: stick -1", x.shave(-1, 1), -2);
        due("21: by all", x.shave(0, 60), -3);
        due("21: all but one, ahead of its due", x.shave(0, 59), 1);
        due("21: purse", x.of(0, 0), 41);
        due("21: 9,999 at most", x.of(1, 0), 9999);
        due("21: not as much", x.shave(1, 42), -3);
        due("21: just as much", x.shave(1, 41), 958);
        due("21: the last", x.shave(0, 1), -3);
        x.person(998);
        x.stick(2, 1, 999, 0, 0, 0);
        due("21: by 998", x.shave(2, 998), 1);
        x.give(1, 0);
        due("21: a paid one", x.shave(1, 1), -3);
        Check.law(x, "pays 0");
        x.force(0);
        due("21: laws do not matter", x.shave(0, 1), -3);
    }

    private static void pass() {
        TallySticks x = new TallySticks();
        due("22: pass", x.pass(), 1);
        due("22: pass", x.pass(), 2);
        x.terms(0, 998);
        due("22: the last", x.pass(), 999);
        due("22: no more", x.pass(), -3);
        due("22: day", x.count(13), 999);
    }

    private static void undo() {
        TallySticks x = people(100, 9990, 0);
        x.stick(0, 1, 60, 0, 0, 0);
        x.stick(0, 2, 30, 0, 0, 0);
        due("23: none", x.undo(), -3);
        x.call(0);
        x.give(1, 1);
        x.give(1, 0);
        x.pass();
        due("23: refused ones are not kept", x.give(1, 1), -3);
        due("23: four", x.count(5), 4);
        due("23: pass", x.undo(), 3);
        due("23: day", x.count(13), 0);
        due("23: give to who owes", x.undo(), 0);
        due("23: not paid", x.at(1, 6), 0);
        due("23: holder", x.at(1, 1), 1);
        due("23: give", x.undo(), 0);
        due("23: holder", x.at(1, 1), 2);
        x.foil(1, 1);
        Check.law(x, "pays 7");
        x.force(0);
        due("23: call", x.undo(), 1);
        due("23: purse 0", x.of(0, 0), 100);
        due("23: purse 1 was less than full", x.of(1, 0), 9990);
        due("23: foils, laws stay", x.count(2) * 100 + x.count(4) * 10 + x.count(12), 110);
        due("23: none left", x.undo(), -3);
        x.shave(0, 10);
        due("23: shave", x.undo(), 2);
        due("23: sum", x.at(0, 2), 60);
        due("23: orders", Check.orders(x, "pass times 20"), 20);
        due("23: 16 are kept", x.count(5), 16);
        for (int i = 0; i < 16; i++) {
            due("23: back " + i, x.undo(), 3);
        }
        due("23: no more", x.undo(), -3);
        due("23: the day they began with", x.count(13), 4);
    }

    private static void undoForgets() {
        TallySticks x = people(100, 100);
        x.stick(0, 1, 9, 0, 0, 0);
        x.pass();
        x.person(10000);
        x.stick(0, 0, 0, 0, 0, 0);
        x.terms(0, 1000);
        x.foil(0, 1);
        x.image(0);
        x.years(1, 1);
        due("23: refused ones forget nothing", x.count(5), 1);
        x.person(0);
        due("23: person() forgets", x.undo(), -3);
        x.pass();
        x.stick(0, 1, 9, 0, 0, 0);
        due("23: stick() forgets", x.undo(), -3);
        x.pass();
        x.terms(2, 0);
        due("23: terms() forgets", x.undo(), -3);
        x.pass();
        x.back(0);
        due("23: back() forgets", x.undo(), -3);
        x.pass();
        x.back(1);
        due("23: a refused back() does not", x.undo(), 3);
    }

    private static void fit() {
        TallySticks x = people(1, 2);
        x.stick(0, 1, 50, 0b111, 0, 0);
        x.foil(0b100, 50);
        x.foil(0b111, 49);
        x.foil(0xFF8, 999);
        due("24: unlike", x.fit(0, 0, 0), 2);
        due("24: fits", x.fit(0, 0, 1), 1);
        due("24: too small", x.fit(0, 1, 1), 0);
        due("24: alike", x.fit(0, 1, 0), 0);
        due("24: all unlike", x.fit(0, 2, 0), 12);
        due("24: does not fit", x.fit(0, 2, 1), 0);
        x.terms(1, 1);
        due("24: not in one", x.fit(0, 0, 1), 0);
        Check.law(x, "wears 12");
        x.force(0);
        due("24: by law", x.fit(0, 2, 1), 1);
        due("24: what 2", x.fit(0, 0, 2), NONE);
        due("24: what -1", x.fit(0, 0, -1), NONE);
        due("24: stick 1", x.fit(1, 0, 0), NONE);
        due("24: foil 3", x.fit(0, 3, 0), NONE);
        due("24: foil -1", x.fit(0, -1, 0), NONE);
        due("24: stick -1", x.fit(-1, 0, 1), NONE);
    }

    private static void match() {
        TallySticks x = people(1, 2);
        x.terms(1, 0);
        x.stick(0, 1, 10, 0, 0, 0);
        x.stick(0, 1, 10, 0, 0, 0);
        x.stick(0, 1, 20, 0, 0, 0);
        x.stick(0, 1, 1, 9, 0, 0);
        x.foil(0, 25);
        x.foil(0, 15);
        due("25: most", x.match(0), 2);
        due("25: stick 0 takes the first", x.match(1), 0);
        due("25: stick 1", x.match(2), 1);
        due("25: stick 2 has none", x.match(3), 100);
        due("25: stick 3 fits nothing", x.match(4), 100);
        due("25: stick 4", x.match(5), NONE);
        due("25: what -1", x.match(-1), NONE);
        x.foil(0, 12);
        due("25: three", x.match(0), 3);
        due("25: stick 0 leaves the first", x.match(1), 1);
        due("25: stick 1", x.match(2), 2);
        due("25: stick 2", x.match(3), 0);
        x.give(2, 0);
        due("25: paid ones, too", x.match(0), 3);
        due("25: the paid one's", x.match(3), 0);
    }

    private static void odd() {
        TallySticks x = people(1, 2);
        due("26: none", x.odd(), 0);
        x.foil(0, 5);
        x.foil(1, 50);
        x.foil(255, 999);
        due("26: all without sticks", x.odd(), 7);
        x.stick(0, 1, 50, 0, 0, 0);
        due("26: two", x.odd(), 5);
        x.stick(0, 1, 4, 255, 0, 0);
        due("26: one", x.odd(), 1);
        x.give(1, 0);
        due("26: paid ones fit, too", x.odd(), 1);
        x.terms(1, 12);
        due("26: none odd", x.odd(), 0);
    }

    private static void apart() {
        TallySticks x = people(1, 2);
        due("27: no sticks", x.apart(0), 0);
        x.stick(0, 1, 1, 0b1010, 0, 0);
        due("27: one", x.apart(1), 0);
        x.stick(0, 1, 1, 0b0110, 0, 0);
        due("27: two", x.apart(0), 1);
        due("27: the lowest", x.apart(1), 0b100);
        x.stick(0, 1, 1, 0b1011, 0, 0);
        due("27: three", x.apart(1), 0b101);
        x.stick(0, 1, 1, 0b0010, 0, 0);
        due("27: four", x.apart(0), 3);
        due("27: which", x.apart(1), 0b1101);
        x.give(3, 0);
        due("27: paid ones, too", x.apart(0), 3);
        due("27: what 2", x.apart(2), NONE);
        due("27: what -1", x.apart(-1), NONE);
        x.stick(0, 1, 1, 0b0010, 0, 0);
        due("27: alike", x.apart(0), NONE);
        due("27: alike", x.apart(1), NONE);
        TallySticks y = people(1, 2);
        for (int i = 0; i < 10; i++) {
            y.stick(0, 1, 1, 1 << i + 2, 0, 0);
        }
        due("27: single fibres", y.apart(0), 9);
        due("27: single fibres", y.apart(1), 0b11111111100);
    }

    private static void told() {
        TallySticks x = people(1, 2);
        x.stick(0, 1, 987, 0, 0, 0);
        x.stick(0, 1, 1, 0, 0, 0);
        due("28: as it is", x.told(0, 0, 0), 1);
        due("28: the greatest", x.told(0, 0, 1), 987);
        due("28: 987, 988, 997", x.told(0, 1, 0), 3);
        due("28: 997", x.told(0, 1, 1), 997);
        due("28: 987 988 989 997 998", x.told(0, 2, 0), 5);
        due("28: all", x.told(0, 27, 0), 6);
        due("28: 999", x.told(0, 27, 1), 999);
        due("28: 001 with all", x.told(1, 27, 0), 900);
        due("28: 001 with 2", x.told(1, 2, 0), 10);
        due("28: 201", x.told(1, 2, 1), 201);
        due("28: f 28", x.told(0, 28, 0), NONE);
        due("28: f -1", x.told(0, -1, 0), NONE);
        due("28: what 2", x.told(0, 0, 2), NONE);
        due("28: what -1", x.told(0, 0, -1), NONE);
        due("28: stick 2", x.told(2, 0, 0), NONE);
        x.shave(1, 1);
        due("28: stick -1", x.told(-1, 0, 0), NONE);
    }

    private static void settle() {
        TallySticks x = people(1, 1, 1, 1, 1, 1);
        x.stick(0, 1, 10, 0, 0, 0);
        x.stick(2, 3, 10, 0, 0, 0);
        due("29: two by two", x.settle(0), 2);
        due("29: 0", x.settle(1), 0);
        due("29: 1", x.settle(2), 0);
        due("29: 2", x.settle(3), 1);
        due("29: 3", x.settle(4), 1);
        due("29: 4 has nothing", x.settle(5), 100);
        due("29: what 7", x.settle(7), NONE);
        due("29: what -1", x.settle(-1), NONE);
        x.stick(4, 2, 5, 0, 0, 0);
        due("29: nets -10 10 -5 10 -5", x.settle(0), 3);
        due("29: 0 with 1", x.settle(2), 0);
        due("29: 4 with 2 and 3", x.settle(5), 1);
        x.give(0, 0);
        due("29: without the paid", x.settle(0), 2);
        due("29: 2 is the lowest", x.settle(3), 0);
        due("29: 0 has nothing", x.settle(1), 100);
        TallySticks y = people(1, 1, 1);
        y.stick(0, 1, 10, 0, 0, 0);
        y.stick(1, 2, 10, 0, 0, 0);
        y.stick(2, 0, 10, 0, 0, 0);
        due("29: a ring is settled by none", y.settle(0), 0);
        due("29: in no group", y.settle(2), 100);
        due("29: person 3", y.settle(4), NONE);
    }

    private static void ring() {
        TallySticks x = people(1, 1, 1, 1);
        x.stick(1, 2, 1, 0, 0, 0);
        x.stick(2, 3, 1, 0, 0, 0);
        x.stick(0, 1, 1, 0, 0, 0);
        due("30: none", x.ring(0), NONE);
        due("30: none of it", x.ring(1), NONE);
        x.stick(3, 0, 1, 0, 0, 0);
        due("30: four", x.ring(0), 4);
        due("30: lowest first", x.ring(1) * 1000 + x.ring(2) * 100 + x.ring(3) * 10 + x.ring(4), 132);
        due("30: no more", x.ring(5), NONE);
        due("30: what -1", x.ring(-1), NONE);
        x.stick(3, 1, 1, 0, 0, 0);
        due("30: fewer", x.ring(0), 3);
        due("30: its row", x.ring(1) * 100 + x.ring(2) * 10 + x.ring(3), 14);
        x.stick(1, 0, 1, 0, 0, 0);
        x.stick(0, 1, 1, 0, 0, 0);
        due("30: two", x.ring(0), 2);
        due("30: the first", x.ring(1) * 10 + x.ring(2), 25);
        x.give(2, 0);
        due("30: without the paid", x.ring(1) * 10 + x.ring(2), 56);
    }

    private static void chain() {
        TallySticks x = people(1, 1, 1, 1, 1, 1);
        for (int i = 0; i < 5; i++) {
            x.stick(i, i + 1, 1, 0, 0, 0);
        }
        due("31: five", x.chain(0, 5), 5);
        due("31: back", x.chain(5, 0), NONE);
        x.stick(1, 4, 1, 0, 0, 0);
        due("31: three", x.chain(0, 5), 3);
        x.give(5, 1);
        due("31: without the paid", x.chain(0, 5), 5);
        due("31: one", x.chain(2, 3), 1);
        due("31: one person", x.chain(2, 2), NONE);
        due("31: person 6", x.chain(0, 6), NONE);
        due("31: person -1", x.chain(-1, 0), NONE);
        x.stick(5, 0, 1, 0, 0, 0);
        due("31: not to itself round a ring", x.chain(0, 0), NONE);
    }

    private static void calls() {
        TallySticks x = people(10, 0, 0);
        x.stick(1, 2, 8, 0, 0, 0);
        x.stick(0, 1, 10, 0, 0, 0);
        x.stick(2, 0, 5, 0, 0, 1);
        due("32: two", x.calls(NONE), 2);
        due("32: what is paid first", x.calls(0), 1);
        due("32: then", x.calls(1), 0);
        due("32: no more", x.calls(2), NONE);
        due("32: -2", x.calls(-2), NONE);
        due("32: on paper", x.of(0, 0) + x.count(3), 10);
        x.pass();
        due("32: due today", x.calls(NONE), 3);
        due("32: last", x.calls(2), 2);
        TallySticks y = people(500, 0);
        for (int i = 0; i < 7; i++) {
            y.stick(0, 1, 100, 0, 0, 0);
        }
        due("32: as many as can be paid", y.calls(NONE), 5);
        due("32: the first", y.calls(4), 4);
        y.stick(0, 1, 100, 0, 0, 5);
        due("32: not due", y.calls(NONE), 5);
        y.stick(0, 1, 100, 0, 0, 0);
        due("32: more than seven", y.calls(NONE), NONE);
        due("32: more than seven", y.calls(0), NONE);
        y.give(3, 0);
        due("32: seven again", y.calls(NONE), 5);
        due("32: without the paid", y.calls(3), 4);
    }

    private static void callsByLaw() {
        TallySticks u = people(100, 100, 0);
        u.stick(0, 1, 50, 0, 0, 0);
        u.stick(1, 0, 50, 0, 0, 0);
        due("32: both", u.calls(NONE), 2);
        u.give(0, 2);
        u.give(1, 1);
        due("32: one was paid", u.calls(NONE), 1);
        u.undo();
        due("32: undone", u.calls(NONE), 2);
        Check.orders(u, "shave 0 by 1; give 1 to 1; call 0");
        due("32: orders", u.calls(NONE), 0);
        u.undo();
        due("32: undone", u.calls(NONE), 1);
        TallySticks x = people(100, 9999, 0);
        x.stick(0, 1, 50, 0, 0, 0);
        x.stick(0, 2, 60, 0, 1, 0);
        x.stick(2, 1, 10, 0, 0, 0);
        Check.law(x, "pays 100 if kind = 1; pays 0 if kind = 1 and purse < 60");
        x.force(0);
        due("32: what it pays hangs on the purse", x.calls(NONE), 2);
        due("32: first", x.calls(0), 0);
        due("32: second", x.calls(1), 1);
        x.force(NONE);
        due("32: without law", x.calls(NONE), 2);
        due("32: first", x.calls(0) * 10 + x.calls(1), 12);
        TallySticks y = people(20, 9995, 20);
        y.stick(0, 1, 20, 0, 0, 0);
        y.stick(1, 2, 999, 0, 0, 0);
        y.stick(2, 0, 15, 0, 0, 0);
        due("32: all", y.calls(NONE), 3);
    }

    private static void years() {
        TallySticks x = people(10, 20);
        due("33: no sticks", x.years(5, 5), -3);
        due("33: the number first", x.years(-1, 5), -1);
        x.stick(0, 1, 5, 0, 0, 0);
        due("33: seed 1000001", x.years(1000001, 1), -1);
        due("33: n 0", x.years(0, 0), -1);
        due("33: n 61", x.years(0, 61), -1);
        due("34: refused ones are not kept", x.drawn(0, 0), NONE);
        due("33: seed 1000000", x.years(1000000, 60), 1);
        due("34: purse", x.drawn(0, 0), 5);
        x.terms(0, 999);
        due("33: at day 999 it ends", x.years(0, 5), 0);
        due("34: as it is", x.drawn(0, 0), 10);
        due("34: not paid", x.drawn(0, 2), 0);
        x.terms(0, 998);
        due("33: one day", x.years(0, 5), 1);
    }

    /** Of 0 the first draws of 3 and 3 are 0 2, 1 1, 0 1, 2 1. */
    private static TallySticks fourDays(int lastDue) {
        TallySticks x = people(10, 20, 30);
        x.stick(0, 1, 5, 0, 0, 0);
        x.stick(2, 0, 31, 0, 0, 0);
        x.stick(1, 0, 6, 0, 0, lastDue);
        x.pass();
        return x;
    }

    private static void yearsOnPaper() {
        TallySticks x = fourDays(5);
        due("33: four days", x.years(0, 4), 1);
        due("34: purses", x.drawn(0, 0) * 10000 + x.drawn(1, 0) * 100 + x.drawn(2, 0), 52530);
        due("34: stick 0 was called", x.drawn(0, 2) * 10 + x.drawn(0, 1), 11);
        due("34: stick 1 was given", x.drawn(1, 2) * 10 + x.drawn(1, 1), 1);
        due("34: stick 2, given to who owes it, is paid", x.drawn(2, 2) * 10 + x.drawn(2, 1), 10);
        due("33: on paper", x.of(0, 0) * 100 + x.count(3) * 10 + x.count(13), 1001);
        due("33: what can be undone stays", x.count(5), 1);
        due("33: three days", x.years(0, 3), 1);
        due("34: stick 2 not yet", x.drawn(2, 2), 0);
        TallySticks y = fourDays(4);
        due("33: days pass", y.years(0, 4), 2);
        due("34: purses", y.drawn(0, 0) * 10000 + y.drawn(1, 0) * 100 + y.drawn(2, 0), 111930);
        TallySticks z = fourDays(5);
        Check.law(z, "bars if to = 1; pays day * 2");
        z.force(0);
        due("33: by law", z.years(0, 4), 2);
        due("34: barred from 1", z.drawn(2, 2), 0);
        due("34: paid on day 1, on day 2", z.drawn(0, 0) * 10000 + z.drawn(1, 0) * 100 + z.drawn(2, 0), 122226);
        TallySticks e = fourDays(1);
        e.terms(0, 997);
        due("33: ends at day 999", e.years(0, 60), 1);
        due("34: the second day was the last", e.drawn(1, 1) * 10 + e.drawn(2, 2), 10);
    }

    private static void drawn() {
        TallySticks x = people(10, 20);
        x.stick(0, 1, 5, 0, 0, 9);
        x.years(0, 1);
        due("34: person 2", x.drawn(2, 0), NONE);
        due("34: person -1", x.drawn(-1, 0), NONE);
        due("34: stick 1", x.drawn(1, 1), NONE);
        due("34: stick -1", x.drawn(-1, 2), NONE);
        due("34: what 3", x.drawn(0, 3), NONE);
        due("34: what -1", x.drawn(0, -1), NONE);
        x.person(30);
        x.stick(0, 2, 5, 0, 0, 9);
        due("34: people of then", x.drawn(2, 0), NONE);
        due("34: sticks of then", x.drawn(1, 1), NONE);
        x.years(-1, 1);
        due("34: the latest that was not refused", x.drawn(1, 0), 20);
        x.years(0, 1);
        due("34: people of now", x.drawn(2, 0), 30);
        x.image(0);
        x.back(0);
        due("34: back() leaves it", x.drawn(2, 0), 30);
    }

    private static void imageAndBack() {
        TallySticks x = people(100, 100);
        due("35: image -1", x.image(-1), -1);
        due("35: image 2", x.image(2), -1);
        due("36: back -1", x.back(-1), -1);
        due("36: back 2", x.back(2), -1);
        due("36: not kept", x.back(1), -2);
        x.stick(0, 1, 40, 0, 0, 0);
        x.foil(1, 10);
        Check.law(x, "pays 11");
        x.force(0);
        due("35: image", x.image(0), 0);
        x.call(0);
        x.person(5);
        x.stick(0, 2, 9, 0, 0, 0);
        x.foil(2, 20);
        x.terms(1, 7);
        Check.law(x, "pays 22");
        x.force(1);
        x.pass();
        due("35: image 1", x.image(1), 0);
        Check.law(x, "bars !");
        Check.put(x, "abc");
        int refusedBefore = x.count(7) * 100 + x.count(8) * 10 + x.count(11);
        due("36: back", x.back(0), 0);
        due("36: people, sticks, foils, laws", x.count(0) * 1000 + x.count(1) * 100 + x.count(2) * 10 + x.count(4), 2111);
        due("36: paid", x.count(3), 0);
        due("36: purse", x.of(0, 0), 100);
        due("36: damp", x.count(14), 2);
        due("36: day", x.count(13), 0);
        due("36: in force", x.count(12), 0);
        due("36: pays", x.at(0, 7), 11);
        due("36: undone", x.count(5), 0);
        due("36: the tape stays", x.count(6), 3);
        due("36: fault stays", x.fault(), 5);
        due("36: refusals stay", x.count(7) * 100 + x.count(8) * 10 + x.count(11), refusedBefore);
        x.end(0);
        due("36: another law 1", Check.law(x, "pays 33"), 1);
        x.force(1);
        due("36: it pays", x.at(0, 7), 33);
        due("36: to the other", x.back(1), 0);
        due("36: its own law 1", x.at(0, 7), 22);
        due("36: its people", x.count(0), 3);
        due("36: its day", x.count(13), 1);
        due("36: images stay", x.back(0), 0);
        due("36: once more", x.back(0), 0);
        due("36: a stick anew is not paid", x.stick(0, 1, 9, 0, 0, 0), 1);
        due("36: not paid", x.at(1, 6), 0);
    }

    private static void count() {
        TallySticks x = people(100, 100);
        x.stick(0, 1, 40, 0, 0, 0);
        x.person(-1);
        x.shave(0, 0);
        x.call(9);
        x.force(5);
        x.back(0);
        x.undo();
        for (int i = 0; i < 11; i++) {
            x.foil(0, 1);
        }
        x.row();
        x.law();
        x.orders();
        x.law();
        x.at(9, 9);
        x.feed(0, 0, 0, 0, 0);
        x.end(-1);
        x.chain(0, 0);
        x.terms(2, 4);
        x.give(0, 0);
        int[] want = {2, 1, 10, 1, 0, 1, 20, 2, 3, 1, 1, 4, -1, 0, 2, 4};
        for (int what = 0; what < want.length; what++) {
            due("37: count(" + what + ")", x.count(what), want[what]);
        }
        due("37: -1", x.count(-1), NONE);
        due("37: 16", x.count(16), NONE);
    }

    private static void status() {
        TallySticks x = new TallySticks();
        x.person(-1);
        due("38: person", x.status(), -1);
        x.of(9, 9);
        x.feed(0, 0, 0, 0, 0);
        x.end(500);
        x.count(99);
        x.asks(0, 0);
        x.drawn(0, 0);
        due("38: others do not matter", x.status(), -1);
        x.end(0);
        x.person(1);
        due("38: not refused", x.status(), 0);
        x.person(2);
        x.stick(0, 7, 1, 0, 0, 0);
        due("38: stick", x.status(), -2);
        x.terms(2, 4);
        due("38: terms", x.status(), 0);
        x.undo();
        due("38: undo", x.status(), -3);
        x.foil(1, 1);
        due("38: foil", x.status(), 0);
        x.row();
        due("38: row", x.status(), -6);
        x.image(0);
        due("38: image", x.status(), 0);
        x.law();
        due("38: law", x.status(), -6);
        x.back(0);
        due("38: back", x.status(), 0);
        x.orders();
        due("38: orders", x.status(), -6);
        x.force(NONE);
        due("38: force", x.status(), 0);
        x.give(0, 0);
        due("38: give", x.status(), -2);
        x.pass();
        due("38: pass", x.status(), 0);
        x.call(0);
        due("38: call", x.status(), -2);
        x.stick(0, 1, 1, 0, 0, 0);
        due("38: stick made", x.status(), 0);
        x.shave(0, 0);
        due("38: shave", x.status(), -1);
        x.years(0, 1);
        due("38: years", x.status(), 0);
        x.years(0, 0);
        due("38: years refused", x.status(), -1);
        for (int i = 0; i < 10; i++) {
            x.foil(1, 1);
        }
        due("38: no room", x.status(), -5);
    }
}
