/** Terms III and IV of what is asked on paper, and promises 24 to 34: none, one, as many as there can be, and numbers beyond. */
public final class PaperEdgesTest {
    private static final int NONE = -1;
    private static final int[] WILD = {Integer.MIN_VALUE, Integer.MIN_VALUE + 1, -1000000, -65536, -2, 11, 28, 101, 65536,
        1 << 30, Integer.MAX_VALUE - 1, Integer.MAX_VALUE};
    private static final Check CHECK = new Check();

    public static void main(String[] args) {
        unlikeFibres();
        fitsBySum();
        fitNumbers();
        matchNone();
        matchFull();
        matchFirstRow();
        matchByMakingRoom();
        matchWhat();
        oddFoils();
        apartOfFew();
        apartFewestAheadOfLowest();
        apartAlike();
        apartMost();
        toldNotches();
        toldDigits();
        toldNumbers();
        settleNone();
        settleGroups();
        settleFirstRow();
        settleWhat();
        ringShortest();
        ringLongest();
        ringFirstRow();
        chainLongest();
        chainNone();
        callsDue();
        callsSeven();
        callsFirstRow();
        callsTriedAnew();
        callsBehindWhatTellsNothing();
        callsNumbers();
        yearsNumbers();
        yearsDays();
        yearsLastDay();
        yearsSeeds();
        yearsOfCallsForNothing();
        yearsOnPaper();
        drawnNumbers();
        drawnOfTheLatest();
        wild();
        CHECK.finish("PaperEdgesTest");
    }

    private static void is(String call, long got, long want) {
        CHECK.due(call, got, want);
    }

    private static TallySticks people(int... purses) {
        TallySticks x = new TallySticks();
        for (int purse : purses) {
            x.person(purse);
        }
        return x;
    }

    private static TallySticks grains(int... grains) {
        TallySticks x = people(1, 1);
        for (int grain : grains) {
            x.stick(0, 1, 1, grain, 0, 0);
        }
        return x;
    }

    /** Each pair is who OWES and who HOLDS, all of SUM 1. */
    private static TallySticks debts(int people, int... pairs) {
        TallySticks x = new TallySticks();
        for (int p = 0; p < people; p++) {
            x.person(0);
        }
        for (int i = 0; i + 1 < pairs.length; i += 2) {
            x.stick(pairs[i], pairs[i + 1], 1, i, 0, 0);
        }
        return x;
    }

    private static void unlikeFibres() {
        TallySticks x = grains(0b111);
        x.foil(0b111, 1);
        x.foil(0b100, 1);
        x.foil(0, 1);
        x.foil(4095 - 0b111, 1);
        is("24: none unlike", x.fit(0, 0, 0), 0);
        is("24: two unlike", x.fit(0, 1, 0), 2);
        is("24: all unlike", x.fit(0, 3, 0), 12);
        is("III: as many as it is WORN in", x.fit(0, 1, 1), 1);
        is("III: one more", x.fit(0, 2, 1), 0);
        x.terms(1, 0);
        is("III: WORN in none", x.fit(0, 0, 1), 1);
        is("III: WORN in none, two unlike", x.fit(0, 1, 1), 0);
        x.terms(1, 11);
        is("III: WORN in 11, 12 unlike", x.fit(0, 3, 1), 0);
        x.terms(1, 12);
        is("III: WORN in 12, 12 unlike", x.fit(0, 3, 1), 1);
    }

    private static void fitsBySum() {
        TallySticks x = people(1000, 1);
        x.stick(0, 1, 51, 0, 0, 0);
        x.foil(0, 50);
        x.foil(0, 51);
        x.foil(0, 52);
        is("III: its SUM is one more than the FOIL's", x.fit(0, 0, 1), 0);
        is("III: as much", x.fit(0, 1, 1), 1);
        is("III: one less", x.fit(0, 2, 1), 1);
        x.shave(0, 1);
        is("III: SUM as it is now", x.fit(0, 0, 1), 1);
        is("24: unlike stay", x.fit(0, 0, 0), 0);
    }

    private static void fitNumbers() {
        TallySticks x = grains(0);
        x.foil(0, 1);
        is("24: STICK -1", x.fit(-1, 0, 0), NONE);
        is("24: STICK 1", x.fit(1, 0, 0), NONE);
        is("24: FOIL -1", x.fit(0, -1, 0), NONE);
        is("24: FOIL 1", x.fit(0, 1, 0), NONE);
        is("24: what -1", x.fit(0, 0, -1), NONE);
        is("24: what 0", x.fit(0, 0, 0), 0);
        is("24: what 1", x.fit(0, 0, 1), 1);
        is("24: what 2", x.fit(0, 0, 2), NONE);
        is("38: that is no refusal", x.status(), 0);
        x.give(0, 0);
        is("24: a PAID one", x.fit(0, 0, 1), 1);
    }

    private static void matchNone() {
        TallySticks x = grains(0, 1, 2);
        is("25: no FOILS", x.match(0), 0);
        is("25: 100: none", x.match(3), 100);
        x.terms(1, 0);
        x.foil(9, 1);
        x.foil(8, 1);
        is("25: none fit", x.match(0), 0);
        is("25: 100: none", x.match(1), 100);
        TallySticks y = people(1, 1);
        y.foil(0, 1);
        is("25: no STICKS", y.match(0), 0);
        is("25: no STICK 0", y.match(1), NONE);
    }

    private static void matchFull() {
        TallySticks x = grains(0, 1, 2, 3, 4, 5, 6, 7, 8, 9);
        x.terms(1, 0);
        for (int i = 9; i >= 0; i--) {
            x.foil(i, 1);
        }
        is("25: ten of ten", x.match(0), 10);
        for (int s = 0; s < 10; s++) {
            is("25: of STICK " + s, x.match(1 + s), 9 - s);
        }
        x.terms(1, 12);
        is("25: all fit all", x.match(0), 10);
        for (int s = 0; s < 10; s++) {
            is("III: the first row, STICK " + s, x.match(1 + s), s);
        }
        is("25: STICK 10", x.match(11), NONE);
        is("26: none are odd", x.odd(), 0);
    }

    private static void matchFirstRow() {
        TallySticks x = people(1, 1);
        x.stick(0, 1, 5, 0, 0, 0);
        x.stick(0, 1, 9, 0, 0, 0);
        x.stick(0, 1, 5, 0, 0, 0);
        x.foil(0, 9);
        is("III: one FOIL of its own", x.match(0), 1);
        is("III: none last: STICK 0 has it", x.match(1), 0);
        is("III: none last: STICK 1 has none", x.match(2), 100);
        is("III: none last: STICK 2 has none", x.match(3), 100);
        x.foil(0, 5);
        is("III: most", x.match(0), 2);
        is("III: the first row, STICK 0", x.match(1), 0);
        is("III: the first row, STICK 1", x.match(2), 100);
        is("III: the first row, STICK 2", x.match(3), 1);
        x.give(0, 0);
        is("III: PAID ones, too", x.match(1), 0);
        x.foil(0, 1);
        is("III: a FOIL that fits none", x.match(0), 2);
        x.foil(0, 8);
        is("III: all", x.match(0), 3);
        is("III: STICK 1 has the one it can", x.match(2), 0);
        is("III: STICK 0 has the next", x.match(1), 1);
        is("III: STICK 2 the last", x.match(3), 3);
    }

    /** STICK i fits FOILS i and i + 1, the last one FOIL 0 alone: all others have to make room for it. */
    private static void matchByMakingRoom() {
        TallySticks x = people(1, 1);
        x.terms(1, 1);
        for (int i = 0; i < 9; i++) {
            x.stick(0, 1, 1, 3 << i, 0, 0);
        }
        for (int f = 0; f < 10; f++) {
            x.foil(1 << f, 1);
        }
        is("III: nine", x.match(0), 9);
        is("III: the first row, STICK 8", x.match(9), 8);
        is("26: the last FOIL fits STICK 8", x.odd(), 0);
        x.stick(0, 1, 1, 1 << 11 | 1, 0, 0);
        is("III: the most are ten", x.match(0), 10);
        for (int s = 0; s < 9; s++) {
            is("III: room was made by STICK " + s, x.match(1 + s), s + 1);
        }
        is("III: for STICK 9", x.match(10), 0);
    }

    private static void matchWhat() {
        TallySticks x = grains(0);
        x.foil(0, 1);
        is("25: what -1", x.match(-1), NONE);
        is("25: what 0", x.match(0), 1);
        is("25: what 1", x.match(1), 0);
        is("25: what 2", x.match(2), NONE);
        is("38: that is no refusal", x.status(), 0);
    }

    private static void oddFoils() {
        TallySticks x = people(1, 1);
        is("26: no FOILS", x.odd(), 0);
        for (int i = 0; i < 10; i++) {
            x.foil(i == 9 ? 0 : 4095, i == 8 ? 999 : 50);
        }
        is("26: no STICKS: all ten", x.odd(), 1023);
        x.stick(0, 1, 50, 0, 0, 0);
        is("26: the last fits", x.odd(), 511);
        x.stick(0, 1, 51, 4095, 0, 0);
        is("26: SUM 51 fits 999 alone", x.odd(), 255);
        x.stick(0, 1, 50, 4095 - 3, 0, 0);
        is("26: WORN in two", x.odd(), 0);
        x.terms(1, 1);
        is("26: WORN in one", x.odd(), 255);
        x.give(1, 0);
        is("26: PAID ones, too", x.odd(), 255);
    }

    private static void apartOfFew() {
        TallySticks x = people(1, 1);
        is("27: no STICKS", x.apart(0), 0);
        is("27: no STICKS, which", x.apart(1), 0);
        x.stick(0, 1, 1, 4095, 0, 0);
        is("27: one STICK", x.apart(0), 0);
        is("27: one STICK, which", x.apart(1), 0);
        is("27: the lowest fibre", grains(0, 1).apart(1), 1);
        is("27: the highest fibre", grains(0, 2048).apart(1), 2048);
        is("27: the highest fibre, one", grains(4095, 2047).apart(0), 1);
        is("27: the lowest of all", grains(0, 4095).apart(1), 1);
        is("27: what -1", grains(0, 1).apart(-1), NONE);
        is("27: what 2", grains(0, 1).apart(2), NONE);
    }

    private static void apartFewestAheadOfLowest() {
        TallySticks x = grains(0, 0b01001, 0b10010, 0b11100);
        is("27: two fibres, not the lower three", x.apart(1), 0b11000);
        is("27: how many", x.apart(0), 2);
        TallySticks y = grains(0, 0b1001, 0b0110, 0b1111);
        is("27: the lowest of 3, 5, 10, 12", y.apart(1), 0b0011);
    }

    private static void apartAlike() {
        TallySticks x = grains(7, 8, 7);
        is("27: two GRAINS are alike", x.apart(0), NONE);
        is("27: two GRAINS are alike, which", x.apart(1), NONE);
        x.give(0, 0);
        is("27: PAID ones, too", x.apart(0), NONE);
        TallySticks y = grains(0, 1, 2, 3, 4, 5, 6, 7, 8, 0);
        is("27: the first and the last are alike", y.apart(0), NONE);
        TallySticks z = grains(0, 1, 2, 3, 4, 5, 6, 7, 9, 9);
        is("27: the last two are alike", z.apart(1), NONE);
    }

    private static void apartMost() {
        TallySticks x = grains(0, 1, 2, 3, 4, 5, 6, 7, 8, 9);
        is("27: ten STICKS by four", x.apart(1), 15);
        TallySticks y = grains(8, 16, 32, 64, 128, 256, 512, 1024, 2048, 0);
        is("27: ten STICKS by nine", y.apart(0), 9);
        is("27: which", y.apart(1), 4088);
    }

    private static void toldNotches() {
        TallySticks x = people(9999, 1);
        x.stick(0, 1, 1, 0, 0, 0);
        x.stick(0, 1, 999, 0, 0, 0);
        x.stick(0, 1, 100, 0, 0, 0);
        is("28: f -1", x.told(0, -1, 0), NONE);
        is("28: f 0: itself", x.told(0, 0, 0), 1);
        is("28: f 0: itself", x.told(0, 0, 1), 1);
        is("28: f 1", x.told(0, 1, 0), 4);
        is("28: f 25: all but 999", x.told(0, 25, 0), 899);
        is("28: f 25: the greatest", x.told(0, 25, 1), 998);
        is("28: f 26: all", x.told(0, 26, 0), 900);
        is("28: f 26: the greatest", x.told(0, 26, 1), 999);
        is("28: f 27", x.told(0, 27, 0), 900);
        is("28: f 28", x.told(0, 28, 0), NONE);
        is("28: 999, f 0", x.told(1, 0, 0), 1);
        is("28: 999, f 27", x.told(1, 27, 0), 1);
        is("28: 999, f 27", x.told(1, 27, 1), 999);
        is("28: 100, f 27", x.told(2, 27, 0), 900);
        is("28: 100, f 25", x.told(2, 25, 0), 899);
    }

    private static void toldDigits() {
        TallySticks x = people(9999, 1);
        x.stick(0, 1, 90, 0, 0, 0);
        x.stick(0, 1, 900, 0, 0, 0);
        x.stick(0, 1, 109, 0, 0, 0);
        is("III: 90 91 190", x.told(0, 1, 0), 3);
        is("III: hundreds first", x.told(0, 1, 1), 190);
        is("III: no digit beyond 9, nor carried", x.told(1, 1, 0), 3);
        is("III: 910", x.told(1, 1, 1), 910);
        is("III: two digits by 9 together", x.told(1, 9, 0), 55);
        is("III: 990", x.told(1, 9, 1), 990);
        is("III: two digits by 18", x.told(1, 18, 0), 100);
        is("III: two digits by 17", x.told(1, 17, 0), 99);
        is("III: 109 119 209", x.told(2, 1, 0), 3);
        is("III: 209", x.told(2, 1, 1), 209);
        x.shave(2, 9);
        is("III: SUM as it is now", x.told(2, 0, 1), 100);
        x.give(2, 0);
        is("28: of a PAID one", x.told(2, 1, 1), 200);
    }

    private static void toldNumbers() {
        TallySticks x = grains(0);
        is("28: STICK -1", x.told(-1, 0, 0), NONE);
        is("28: STICK 1", x.told(1, 0, 0), NONE);
        is("28: what -1", x.told(0, 0, -1), NONE);
        is("28: what 2", x.told(0, 0, 2), NONE);
        is("38: that is no refusal", x.status(), 0);
    }

    private static void settleNone() {
        TallySticks x = people(1, 1, 1);
        is("29: no STICKS", x.settle(0), 0);
        is("29: 100: its NET is 0", x.settle(1), 100);
        x.stick(0, 1, 5, 0, 0, 0);
        x.stick(1, 2, 5, 0, 0, 0);
        x.stick(2, 0, 5, 0, 0, 0);
        is("29: all NETS 0", x.settle(0), 0);
        is("29: 100: its NET is 0", x.settle(3), 100);
        x.give(1, 1);
        is("III: those that are not PAID alone", x.settle(0), 1);
        is("29: 100: its NET is 0", x.settle(1), 100);
        is("29: the others together", x.settle(2) + x.settle(3), 0);
    }

    private static void settleGroups() {
        TallySticks x = debts(6, 0, 1, 2, 3, 4, 5);
        is("29: three GROUPS of two", x.settle(0), 3);
        is("29: 0 0 1 1 2 2", x.settle(1) * 100000 + x.settle(3) * 1000 + x.settle(4) * 100 + x.settle(5) * 10 + x.settle(6), 1122);
        TallySticks y = people(1, 1, 1, 1, 1, 1);
        int[] owed = {1, 2, 4, 8, 16};
        for (int i = 0; i < 5; i++) {
            y.stick(i, 5, owed[i], 0, 0, 0);
        }
        is("29: one GROUP of six", y.settle(0), 5);
        is("29: all in it", y.settle(1) + y.settle(2) + y.settle(3) + y.settle(4) + y.settle(5) + y.settle(6), 0);
        TallySticks z = people(1, 1);
        z.stick(0, 1, 999, 0, 0, 0);
        is("29: two PEOPLE, one STICK", z.settle(0), 1);
        is("29: both in GROUP 0", z.settle(1) + z.settle(2), 0);
    }

    /** NETS -1 -1 1 1: 0 goes with 2 as well as with 3. */
    private static void settleFirstRow() {
        TallySticks x = debts(4, 0, 3, 1, 2);
        is("29: two STICKS", x.settle(0), 2);
        is("III: the first row 0 1 0 1", x.settle(1) * 1000 + x.settle(2) * 100 + x.settle(3) * 10 + x.settle(4), 101);
        TallySticks y = debts(6, 1, 5, 2, 4);
        is("III: the lowest PERSON whose NET is not 0 is in GROUP 0", y.settle(2), 0);
        is("III: 100 of the others", y.settle(1) + y.settle(4), 200);
        is("III: 2 in GROUP 1", y.settle(3), 1);
        is("III: 4 in GROUP 0", y.settle(5), 0);
        is("III: 5 in GROUP 1", y.settle(6), 1);
    }

    private static void settleWhat() {
        TallySticks x = debts(6, 0, 1);
        is("29: what -1", x.settle(-1), NONE);
        is("29: what 6: PERSON 5", x.settle(6), 100);
        is("29: what 7", x.settle(7), NONE);
        TallySticks y = debts(2, 0, 1);
        is("29: what 2: PERSON 1", y.settle(2), 0);
        is("29: what 3", y.settle(3), NONE);
        is("38: that is no refusal", y.status(), 0);
    }

    private static void ringShortest() {
        TallySticks x = debts(3, 0, 1);
        is("30: one STICK is none", x.ring(0), NONE);
        is("30: none of it", x.ring(1), NONE);
        x.stick(0, 1, 1, 0, 0, 0);
        is("30: two the same way are none", x.ring(0), NONE);
        x.stick(1, 0, 1, 0, 0, 0);
        is("30: two are the fewest", x.ring(0), 2);
        is("30: the first", x.ring(1), 0);
        is("30: the second", x.ring(2), 2);
        is("30: no third", x.ring(3), NONE);
        is("30: what -1", x.ring(-1), NONE);
        x.give(2, 1);
        is("III: not PAID alone", x.ring(0), NONE);
    }

    private static void ringLongest() {
        TallySticks x = debts(6, 5, 0, 0, 1, 4, 5, 1, 2, 3, 4, 2, 3);
        is("30: six", x.ring(0), 6);
        int[] row = {0, 1, 3, 5, 4, 2};
        for (int i = 0; i < 6; i++) {
            is("30: the " + i + "-th", x.ring(1 + i), row[i]);
        }
        is("30: no seventh", x.ring(7), NONE);
        x.give(3, 0);
        is("30: two now, as 0 holds what 1 OWES", x.ring(0), 2);
        is("30: its row", x.ring(1) * 10 + x.ring(2), 13);
    }

    private static void ringFirstRow() {
        TallySticks x = debts(6, 2, 0, 1, 2, 1, 2, 0, 1, 0, 1);
        is("30: three", x.ring(0), 3);
        is("III: the first row", x.ring(1) * 100 + x.ring(2) * 10 + x.ring(3), 31);
        TallySticks y = debts(6, 3, 4, 4, 5, 5, 3, 1, 0, 0, 1);
        is("III: the fewest ahead of the first", y.ring(0), 2);
        is("III: its row", y.ring(1) * 10 + y.ring(2), 34);
        TallySticks z = debts(4, 0, 1, 1, 0, 0, 1, 1, 0);
        is("III: begins with its lowest", z.ring(1) * 10 + z.ring(2), 1);
        z.give(0, 0);
        is("III: begins with its lowest", z.ring(1) * 10 + z.ring(2), 12);
        TallySticks u = debts(4, 0, 1, 1, 2, 2, 1, 2, 0);
        is("III: no PERSON twice", u.ring(0), 2);
        is("III: its row", u.ring(1) * 10 + u.ring(2), 12);
    }

    private static void chainLongest() {
        TallySticks x = debts(6, 4, 5, 3, 4, 2, 3, 1, 2, 0, 1);
        is("31: one STICK", x.chain(0, 1), 1);
        is("31: five STICKS", x.chain(0, 5), 5);
        is("31: four STICKS", x.chain(1, 5), 4);
        x.stick(0, 4, 1, 0, 0, 0);
        is("31: the fewest", x.chain(0, 5), 2);
        x.give(5, 0);
        is("III: such STICKS: not PAID alone", x.chain(0, 5), 5);
        is("31: PERSON 5 to none", x.chain(5, 4), NONE);
    }

    private static void chainNone() {
        TallySticks x = debts(3, 0, 1, 1, 0);
        is("31: none", x.chain(0, 2), NONE);
        is("31: one PERSON", x.chain(0, 0), NONE);
        is("31: from -1", x.chain(-1, 0), NONE);
        is("31: to -1", x.chain(0, -1), NONE);
        is("31: from 3", x.chain(3, 0), NONE);
        is("31: to 3", x.chain(0, 3), NONE);
        is("31: both not there", x.chain(3, 4), NONE);
        is("38: that is no refusal", x.status(), 0);
        is("31: from 0", x.chain(0, 1), 1);
    }

    private static void callsDue() {
        TallySticks x = people(100, 0);
        x.stick(0, 1, 5, 0, 0, 3);
        x.stick(0, 1, 5, 0, 0, 4);
        x.terms(0, 2);
        is("32: none is due", x.calls(NONE), 0);
        is("32: none of them", x.calls(0), NONE);
        x.pass();
        is("III: on its DUE", x.calls(NONE), 1);
        is("32: which", x.calls(0), 0);
        is("32: no more", x.calls(1), NONE);
        x.pass();
        is("32: both", x.calls(NONE), 2);
        x.call(0);
        is("III: not PAID alone", x.calls(NONE), 1);
        is("32: which", x.calls(0), 1);
    }

    private static void callsSeven() {
        TallySticks x = people(9999, 0);
        for (int i = 0; i < 7; i++) {
            x.stick(0, 1, 1, 0, 0, 0);
        }
        is("32: 7 STICKS are such", x.calls(NONE), 7);
        for (int i = 0; i < 7; i++) {
            is("32: the " + i + "-th", x.calls(i), i);
        }
        is("32: no eighth", x.calls(7), NONE);
        x.stick(0, 1, 1, 0, 0, 1);
        x.stick(0, 1, 1, 0, 0, 1);
        is("32: not due ones are not such", x.calls(NONE), 7);
        x.stick(0, 1, 1, 0, 0, 0);
        is("32: more than 7 STICKS are such", x.calls(NONE), NONE);
        is("32: none of them", x.calls(0), NONE);
        x.call(0);
        is("32: PAID ones are not such", x.calls(NONE), 7);
        is("32: the last", x.calls(6), 9);
        x.pass();
        is("32: 9 are such", x.calls(NONE), NONE);
        TallySticks y = people(0, 0);
        for (int i = 0; i < 8; i++) {
            y.stick(0, 1, 1, 0, 0, 0);
        }
        is("32: such ones, though none can be", y.calls(NONE), NONE);
        y.give(7, 0);
        is("32: 7, none can be", y.calls(NONE), 0);
    }

    private static void callsFirstRow() {
        TallySticks x = people(10, 0, 0);
        x.stick(1, 2, 10, 0, 0, 0);
        x.stick(0, 1, 10, 0, 0, 0);
        x.stick(0, 1, 10, 0, 0, 0);
        is("32: the longest", x.calls(NONE), 2);
        is("III: the first row", x.calls(0) * 10 + x.calls(1), 10);
        TallySticks y = people(20, 9995, 0);
        y.stick(0, 1, 20, 0, 0, 0);
        y.stick(1, 2, 999, 0, 0, 0);
        Check.law(y, "pays 10*1000 if sum=999");
        y.force(0);
        is("III: 9,999 at most there, on paper too", y.calls(NONE), 2);
        is("III: what it PAYS by law", y.calls(0) * 10 + y.calls(1), 1);
        is("3: on paper", y.of(0, 0), 20);
        is("37: on paper", y.count(3) + y.count(5), 0);
    }

    /** What was tried and was not the longest is as it was for what is tried next. */
    private static void callsTriedAnew() {
        TallySticks x = people(10, 0, 0);
        x.stick(0, 2, 10, 0, 0, 0);
        x.stick(0, 1, 5, 0, 0, 0);
        x.stick(0, 1, 5, 0, 0, 0);
        is("III: not the first alone", x.calls(NONE), 2);
        is("III: the two", x.calls(0) * 10 + x.calls(1), 12);
        TallySticks y = people(10, 0, 0);
        y.stick(0, 1, 10, 0, 0, 0);
        y.stick(1, 2, 10, 0, 0, 0);
        y.stick(0, 2, 5, 0, 0, 0);
        y.stick(0, 2, 5, 0, 0, 0);
        is("III: not what one has who was not paid", y.calls(NONE), 2);
        is("III: the first row", y.calls(0) * 10 + y.calls(1), 1);
        TallySticks z = people(10, 0, 0);
        z.stick(0, 2, 10, 0, 0, 0);
        z.stick(0, 1, 10, 0, 0, 0);
        z.stick(1, 0, 10, 0, 0, 0);
        is("III: the first one last", z.calls(NONE), 3);
        is("III: its row", z.calls(0) * 100 + z.calls(1) * 10 + z.calls(2), 120);
    }

    /** A call that tells 0 changes what is asked next like any other. */
    private static void callsBehindWhatTellsNothing() {
        TallySticks x = people(10, 0, 0);
        x.stick(1, 0, 1, 0, 0, 0);
        x.stick(0, 1, 5, 0, 0, 0);
        is("32: 1, then 0", x.calls(NONE), 2);
        is("19: to who OWES it: 0 held it", x.give(0, 1), 0);
        is("32: not PAID alone", x.calls(NONE), 1);
        is("32: which", x.calls(0), 1);
        is("23: a give is undone", x.undo(), 0);
        is("32: as it was", x.calls(NONE), 2);
    }

    private static void callsNumbers() {
        TallySticks x = people(10, 0);
        x.stick(0, 1, 1, 0, 0, 0);
        is("32: i NONE", x.calls(-1), 1);
        is("32: i -2", x.calls(-2), NONE);
        is("32: i 0", x.calls(0), 0);
        is("32: i 1", x.calls(1), NONE);
        is("32: i 9", x.calls(9), NONE);
        is("38: that is no refusal", x.status(), 0);
    }

    private static void yearsNumbers() {
        TallySticks x = people(10, 0);
        is("33: there are no STICKS", x.years(0, 1), -3);
        is("33: -1 ahead of -3", x.years(-1, 1), -1);
        is("33: -1 ahead of -3", x.years(0, 61), -1);
        x.stick(0, 1, 1, 0, 0, 0);
        is("IV: SEED -1", x.years(-1, 1), -1);
        is("IV: SEED 1,000,001", x.years(1000001, 1), -1);
        is("IV: n 0", x.years(0, 0), -1);
        is("IV: n -1", x.years(0, -1), -1);
        is("IV: n 61", x.years(0, 61), -1);
        is("38: by -1", x.status(), -1);
        is("37: counted", x.count(7), 7);
        is("34: none kept yet", x.drawn(0, 0), NONE);
        is("IV: SEED 0, n 1", x.years(0, 1), 1);
        is("38: not REFUSED", x.status(), 0);
        is("IV: SEED 1,000,000, n 60", x.years(1000000, 60), 1);
        x.call(0);
        is("33: STICKS that are PAID are STICKS", x.years(0, 1), 0);
        is("38: not REFUSED", x.status(), 0);
    }

    /** Reckoned apart from the program: of SEED 1092 the 60th day calls a STICK. */
    private static TallySticks five() {
        TallySticks x = people(10, 20, 30);
        x.stick(0, 1, 5, 0, 0, 0);
        x.stick(1, 2, 7, 0, 0, 30);
        x.stick(2, 0, 31, 0, 0, 0);
        x.stick(1, 0, 9, 0, 0, 59);
        x.stick(0, 2, 3, 0, 0, 61);
        return x;
    }

    private static int drawnOf(TallySticks x) {
        return x.drawn(0, 0) * 10000 + x.drawn(1, 0) * 100 + x.drawn(2, 0);
    }

    private static int heldOf(TallySticks x) {
        int row = 0;
        for (int s = 0; s < 5; s++) {
            row = row * 100 + x.drawn(s, 1) * 10 + x.drawn(s, 2);
        }
        return row;
    }

    private static void yearsDays() {
        TallySticks x = five();
        is("33: one day", x.years(0, 1), 1);
        is("34: PURSES", drawnOf(x), 52530);
        is("34: HOLDS, PAID", heldOf(x), 1120000020);
        is("33: 59 days", x.years(1092, 59), 1);
        is("34: PURSES", drawnOf(x), 52530);
        is("33: 60 days", x.years(1092, 60), 2);
        is("34: PURSES", drawnOf(x), 141630);
        is("34: HOLDS, PAID", heldOf(x), 1101110111);
        is("33: a day alone", x.years(1000000, 1), 0);
        is("34: PURSES", drawnOf(x), 102030);
        is("34: HOLDS, PAID", heldOf(x), 1000000020);
    }

    private static void yearsLastDay() {
        TallySticks x = five();
        x.terms(0, 997);
        is("IV: two days", x.years(0, 60), 2);
        is("34: PURSES", drawnOf(x), 22533);
        x.terms(0, 998);
        is("IV: one day", x.years(0, 60), 1);
        is("34: PURSES", drawnOf(x), 52530);
        x.terms(0, 999);
        is("IV: at DAY 999 it ends", x.years(0, 60), 0);
        is("34: as it is", drawnOf(x), 102030);
        is("34: as it is", heldOf(x), 1020000020);
        is("38: that is no refusal", x.status(), 0);
        is("37: DAY", x.count(13), 999);
    }

    /** A first s of 1,000,002, of 0 and of 1, and a second of 1,000,002. */
    private static void yearsSeeds() {
        TallySticks x = people(10, 20, 30);
        x.stick(0, 1, 5, 0, 0, 9);
        x.stick(1, 2, 5, 0, 0, 9);
        x.stick(2, 0, 5, 0, 0, 9);
        is("IV: s 1,000,002, then 11,242", x.years(327279, 1), 0);
        is("34: STICK 0 to 1, who HOLDS it", x.drawn(0, 1) * 100 + x.drawn(1, 1) * 10 + x.drawn(2, 1), 120);
        is("IV: s 327,279, then 1,000,002", x.years(434557, 1), 0);
        is("34: STICK 0 to who OWES it", x.drawn(0, 2) * 100 + x.drawn(1, 2) * 10 + x.drawn(2, 2), 100);
        is("IV: s 0, then 12,345", x.years(870345, 1), 0);
        is("34: STICK 0 to 0", x.drawn(0, 2) * 100 + x.drawn(1, 2) * 10 + x.drawn(2, 2), 100);
        is("IV: s 1, then 13,448", x.years(413408, 1), 0);
        is("34: STICK 1 to 2, who HOLDS it", x.drawn(0, 1) * 100 + x.drawn(1, 1) * 10 + x.drawn(2, 1), 120);
    }

    private static void yearsOfCallsForNothing() {
        TallySticks x = people(0, 0);
        x.stick(0, 1, 5, 0, 0, 0);
        is("33: an empty PURSE", x.years(0, 1), 0);
        Check.law(x, "pays 0");
        x.force(0);
        is("33: CALLED for 0", x.years(0, 1), 1);
        is("34: PAID", x.drawn(0, 2), 1);
        is("34: who HOLDS it stays", x.drawn(0, 1), 1);
    }

    private static void yearsOnPaper() {
        TallySticks x = five();
        x.pass();
        x.shave(0, 1);
        x.image(0);
        String was = Check.seen(x).replaceAll(" drawn[^ ]*", "");
        x.years(1092, 60);
        CHECK.same("IV: on paper", Check.seen(x).replaceAll(" drawn[^ ]*", ""), was);
        is("23: what can be undone", x.undo(), 2);
        is("36: the IMAGE", x.back(0), 0);
        is("36: its SUM", x.at(0, 2), 4);
    }

    private static void drawnNumbers() {
        TallySticks x = people(10, 20, 30);
        x.stick(0, 1, 5, 0, 0, 9);
        x.stick(0, 1, 5, 0, 0, 9);
        x.years(0, 1);
        is("34: PERSON -1", x.drawn(-1, 0), NONE);
        is("34: PERSON 2", x.drawn(2, 0), 30);
        is("34: PERSON 3", x.drawn(3, 0), NONE);
        is("34: STICK -1, HOLDS", x.drawn(-1, 1), NONE);
        is("34: STICK -1, PAID", x.drawn(-1, 2), NONE);
        is("34: STICK 0", x.drawn(0, 1), 1);
        is("34: STICK 1, PAID", x.drawn(1, 2), 0);
        is("34: STICK 2, HOLDS", x.drawn(2, 1), NONE);
        is("34: STICK 2, PAID", x.drawn(2, 2), NONE);
        is("34: what -1", x.drawn(0, -1), NONE);
        is("34: what 3", x.drawn(0, 3), NONE);
        is("38: that is no refusal", x.status(), 0);
        TallySticks y = people(1, 2, 3, 4, 5, 6);
        for (int i = 0; i < 10; i++) {
            y.stick(0, 1, 1, 0, 0, 999);
        }
        y.years(0, 1);
        is("34: PERSON 5", y.drawn(5, 0), 6);
        is("34: PERSON 6", y.drawn(6, 0), NONE);
        is("34: STICK 9", y.drawn(9, 1), 1);
        is("34: STICK 10", y.drawn(10, 1), NONE);
    }

    private static void drawnOfTheLatest() {
        TallySticks x = people(10, 20);
        x.stick(0, 1, 5, 0, 0, 9);
        x.image(0);
        x.years(0, 1);
        x.person(30);
        x.stick(2, 0, 5, 0, 0, 9);
        is("34: PERSON 2 was not there then", x.drawn(2, 0), NONE);
        is("34: STICK 1 was not there then", x.drawn(1, 1), NONE);
        x.years(0, 61);
        is("34: REFUSED ones are not kept", x.drawn(2, 0), NONE);
        x.years(0, 1);
        is("34: PERSON 2 was there", x.drawn(2, 0), 30);
        is("34: STICK 1 was there", x.drawn(1, 1), 0);
        x.back(0);
        is("IV: BACK leaves the latest YEARS, PERSON", x.drawn(2, 0), 30);
        is("IV: BACK leaves the latest YEARS, STICK", x.drawn(1, 1), 0);
    }

    private static void wild() {
        for (int w : WILD) {
            TallySticks x = five();
            x.foil(0, 9);
            x.years(0, 1);
            is("24: fit(" + w + ", 0, 0)", x.fit(w, 0, 0), NONE);
            is("24: fit(0, " + w + ", 1)", x.fit(0, w, 1), NONE);
            is("24: fit(0, 0, " + w + ")", x.fit(0, 0, w), NONE);
            is("25: match(" + w + ")", x.match(w), NONE);
            is("27: apart(" + w + ")", x.apart(w), NONE);
            is("28: told(" + w + ", 0, 0)", x.told(w, 0, 0), NONE);
            is("28: told(0, " + w + ", 0)", x.told(0, w, 0), w == 11 ? 272 : NONE);
            is("28: told(0, 0, " + w + ")", x.told(0, 0, w), NONE);
            is("29: settle(" + w + ")", x.settle(w), NONE);
            is("30: ring(" + w + ")", x.ring(w), NONE);
            is("31: chain(" + w + ", 0)", x.chain(w, 0), NONE);
            is("31: chain(0, " + w + ")", x.chain(0, w), NONE);
            is("31: chain(" + w + ", " + w + ")", x.chain(w, w), NONE);
            is("32: calls(" + w + ")", x.calls(w), NONE);
            is("33: years(0, " + w + ")", x.years(0, w), w == 11 || w == 28 ? 1 : -1);
            boolean seed = w >= 0 && w <= 1000000;
            is("33: years(" + w + ", 1)", x.years(w, 1) < 0 ? 1 : 0, seed ? 0 : 1);
            is("34: drawn(" + w + ", 0)", x.drawn(w, 0), NONE);
            is("34: drawn(" + w + ", 1)", x.drawn(w, 1), NONE);
            is("34: drawn(0, " + w + ")", x.drawn(0, w), NONE);
        }
    }
}
