/**
 * Terms I, the TAPE, ROWS, and promises 1 to 12: of each limit the last value that is taken and the first that is not,
 * on both sides; nothing there yet, and everything full. The texts tell the sentence of the document.
 */
public final class LimitEdgesTest {
    private static final int NONE = -1;
    private static final int NOTHING = -1000000;
    /** Numbers that no limit takes; some wrap around to a small one when they are cut, negated or doubled. */
    private static final int[] WILD = {Integer.MIN_VALUE, Integer.MIN_VALUE + 1, -1000000, -65536, -256, 4096, 10000, 65536,
        1000001, 1 << 30, Integer.MAX_VALUE - 1, Integer.MAX_VALUE};
    private static final Check CHECK = new Check();

    public static void main(String[] args) {
        nothingThereYet();
        nothingToAskYet();
        nothingOnTheTapeYet();
        purse();
        people();
        ofPeople();
        oneOwesAnotherHolds();
        sum();
        grain();
        kind();
        due();
        sticks();
        notPaidAtFirst();
        atSticks();
        foilGrain();
        foilSum();
        foils();
        halves();
        day();
        damp();
        mood();
        termNumbers();
        bytesOfANumber();
        bytesThatAreNegative();
        tapeFull();
        tapeCut();
        rowSecondByte();
        rowThirdByte();
        rowFirstByte();
        rowEnds();
        rowEndsAheadOfWhatWasCut();
        rowRoom();
        chipsOfTheLatest();
        wildPeopleAndSticks();
        wildFoilsAndTerms();
        CHECK.finish("LimitEdgesTest");
    }

    private static void is(String call, long got, long want) {
        CHECK.due(call, got, want);
    }

    private static TallySticks two() {
        return Check.pair(100, 200);
    }

    private static void nothingThereYet() {
        TallySticks x = new TallySticks();
        is("NONE", TallySticks.NONE, -1);
        is("NOTHING", TallySticks.NOTHING, -1000000);
        is("1: no PEOPLE", x.count(0), 0);
        is("1: a chest without STICKS", x.count(1), 0);
        is("1: no FOILS", x.count(2), 0);
        is("1: none PAID", x.count(3), 0);
        is("1: no LAWS", x.count(4), 0);
        is("1: none can be undone", x.count(5), 0);
        is("1: no bytes", x.count(6), 0);
        for (int what = 7; what <= 11; what++) {
            is("1: nothing REFUSED, count " + what, x.count(what), 0);
        }
        is("II: NONE in FORCE at first", x.count(12), NONE);
        is("I: DAY 0 at first", x.count(13), 0);
        is("I: DAMP 2 at first", x.count(14), 2);
        is("I: MOOD 0 at first", x.count(15), 0);
        is("38: 0 ahead of any", x.status(), 0);
        is("15: no FAULT yet", x.fault(), NONE);
        is("16: none stopped yet", x.stopped(), NONE);
        is("12: 0 ahead of any", x.chips(), 0);
        is("3: no PERSON 0 yet", x.of(0, 0), NOTHING);
        is("5: no STICK 0 yet", x.at(0, 0), NONE);
        is("7: no FOIL 0 yet", x.half(0, 0), NONE);
        is("18: nothing to ask yet", x.asks(0, 0), NONE);
        is("34: no YEARS yet, PURSE", x.drawn(0, 0), NONE);
        is("34: no YEARS yet, HOLDS", x.drawn(0, 1), NONE);
        is("34: no YEARS yet, PAID", x.drawn(0, 2), NONE);
        x.person(5);
        x.person(5);
        x.stick(0, 1, 1, 0, 0, 0);
        is("34: no YEARS yet, with PEOPLE", x.drawn(0, 0), NONE);
        is("34: no YEARS yet, with STICKS", x.drawn(0, 1), NONE);
    }

    private static void nothingToAskYet() {
        TallySticks x = new TallySticks();
        is("24: nothing yet", x.fit(0, 0, 0), NONE);
        is("25: no STICKS, how many", x.match(0), 0);
        is("25: no STICK 0", x.match(1), NONE);
        is("26: no FOILS", x.odd(), 0);
        is("27: no STICKS, how many", x.apart(0), 0);
        is("27: no STICKS, which", x.apart(1), 0);
        is("28: nothing yet", x.told(0, 0, 0), NONE);
        is("29: no PEOPLE, how many", x.settle(0), 0);
        is("29: no PERSON 0", x.settle(1), NONE);
        is("30: none", x.ring(0), NONE);
        is("30: none of it", x.ring(1), NONE);
        is("31: no PEOPLE", x.chain(0, 1), NONE);
        is("32: no STICKS, how many", x.calls(NONE), 0);
        is("32: none of them", x.calls(0), NONE);
        is("33: no STICKS", x.years(0, 1), -3);
        is("17: no LAW 0", x.force(0), -2);
        is("17: NONE can be put in FORCE", x.force(NONE), NONE);
        is("19: no STICK 0", x.give(0, 0), -2);
        is("20: no STICK 0", x.call(0), -2);
        is("21: no STICK 0", x.shave(0, 1), -2);
        is("23: there is none", x.undo(), -3);
        is("36: IMAGE 0 was not kept", x.back(0), -2);
        is("36: IMAGE 1 was not kept", x.back(1), -2);
        is("22: a DAY passes without STICKS", x.pass(), 1);
        is("35: an IMAGE of nothing", x.image(0), 0);
        is("36: back to nothing", x.back(0), 0);
        is("36: its DAY", x.count(13), 1);
    }

    private static void nothingOnTheTapeYet() {
        TallySticks x = new TallySticks();
        is("11: the TAPE is empty", x.row(), -6);
        is("15: a ROW has no FAULT", x.fault(), NONE);
        is("13: an empty TEXT", x.law(), -6);
        is("15: FAULT at its end", x.fault(), 0);
        is("10: end(0) of an empty one", x.end(0), 0);
        is("10: end(1) of an empty one", x.end(1), NONE);
        TallySticks y = new TallySticks();
        is("14: an empty TEXT", y.orders(), -6);
        is("15: FAULT at its end", y.fault(), 0);
        is("16: none stopped", y.stopped(), NONE);
    }

    private static void purse() {
        TallySticks x = new TallySticks();
        is("I: PURSE 0", x.person(0), 0);
        is("I: PURSE 9,999", x.person(9999), 1);
        is("I: PURSE -1", x.person(-1), -1);
        is("I: PURSE 10,000", x.person(10000), -1);
        is("3: PURSE 0", x.of(0, 0), 0);
        is("3: PURSE 9,999", x.of(1, 0), 9999);
        is("2: the refused are none", x.count(0), 2);
    }

    private static void people() {
        TallySticks x = new TallySticks();
        for (int i = 0; i < 6; i++) {
            is("I: PERSON " + i, x.person(10 * i), i);
            is("37: so many PEOPLE", x.count(0), i + 1);
        }
        is("I: 6 at most", x.person(1), -5);
        is("2: -1 ahead of -5", x.person(-1), -1);
        is("2: -1 ahead of -5", x.person(10000), -1);
        is("I: still 6", x.count(0), 6);
        for (int i = 0; i < 6; i++) {
            is("3: PURSE of " + i, x.of(i, 0), 10 * i);
        }
    }

    private static void ofPeople() {
        TallySticks x = two();
        x.stick(0, 1, 30, 0, 0, 0);
        is("3: PERSON -1", x.of(-1, 0), NOTHING);
        is("3: the last PERSON", x.of(1, 0), 200);
        is("3: PERSON 2", x.of(2, 0), NOTHING);
        is("3: what -1", x.of(0, -1), NOTHING);
        is("3: what 0", x.of(0, 0), 100);
        is("3: what 3", x.of(0, 3), 1);
        is("3: what 4", x.of(0, 4), NOTHING);
        is("3: a NET below 0", x.of(0, 1), -30);
        TallySticks y = two();
        for (int i = 0; i < 10; i++) {
            y.stick(0, 1, 999, 0, 0, 0);
        }
        is("3: the lowest NET", y.of(0, 1), -9990);
        is("3: the greatest NET", y.of(1, 1), 9990);
        is("3: OWES all", y.of(0, 3), 10);
        is("3: HOLDS all", y.of(1, 2), 10);
        is("3: HOLDS none", y.of(0, 2), 0);
        is("3: OWES none", y.of(1, 3), 0);
        is("3: a full row, PERSON 6", y.of(6, 0), NOTHING);
    }

    private static void oneOwesAnotherHolds() {
        TallySticks x = two();
        is("4: owes and holds alike", x.stick(1, 1, 1, 0, 0, 0), -1);
        is("4: alike, and not there: -1 first", x.stick(2, 2, 1, 0, 0, 0), -1);
        is("4: alike, and below 0: -1 first", x.stick(-1, -1, 1, 0, 0, 0), -1);
        is("4: owes -1", x.stick(-1, 1, 1, 0, 0, 0), -2);
        is("4: owes 2", x.stick(2, 1, 1, 0, 0, 0), -2);
        is("4: holds -1", x.stick(0, -1, 1, 0, 0, 0), -2);
        is("4: holds 2", x.stick(0, 2, 1, 0, 0, 0), -2);
        is("4: the first and the last", x.stick(0, 1, 1, 0, 0, 0), 0);
        is("4: the last and the first", x.stick(1, 0, 1, 0, 0, 0), 1);
        is("4: -1 ahead of -2", x.stick(0, 2, 0, 0, 0, 0), -1);
    }

    private static void sum() {
        TallySticks x = two();
        is("I: SUM 1", x.stick(0, 1, 1, 0, 0, 0), 0);
        is("I: SUM 999", x.stick(0, 1, 999, 0, 0, 0), 1);
        is("I: SUM 0", x.stick(0, 1, 0, 0, 0, 0), -1);
        is("I: SUM 1,000", x.stick(0, 1, 1000, 0, 0, 0), -1);
        is("5: SUM 1", x.at(0, 2), 1);
        is("5: SUM 999", x.at(1, 2), 999);
    }

    private static void grain() {
        TallySticks x = two();
        is("I: GRAIN 0", x.stick(0, 1, 1, 0, 0, 0), 0);
        is("I: GRAIN 4,095", x.stick(0, 1, 1, 4095, 0, 0), 1);
        is("I: GRAIN -1", x.stick(0, 1, 1, -1, 0, 0), -1);
        is("I: GRAIN 4,096", x.stick(0, 1, 1, 4096, 0, 0), -1);
        is("5: GRAIN 0", x.at(0, 3), 0);
        is("5: GRAIN 4,095", x.at(1, 3), 4095);
    }

    private static void kind() {
        TallySticks x = two();
        is("I: KIND 0", x.stick(0, 1, 1, 0, 0, 0), 0);
        is("I: KIND 3", x.stick(0, 1, 1, 0, 3, 0), 1);
        is("I: KIND -1", x.stick(0, 1, 1, 0, -1, 0), -1);
        is("I: KIND 4", x.stick(0, 1, 1, 0, 4, 0), -1);
        is("5: KIND 0", x.at(0, 4), 0);
        is("5: KIND 3", x.at(1, 4), 3);
    }

    private static void due() {
        TallySticks x = two();
        is("I: DUE 0", x.stick(0, 1, 1, 0, 0, 0), 0);
        is("I: DUE 999", x.stick(0, 1, 1, 0, 0, 999), 1);
        is("I: DUE -1", x.stick(0, 1, 1, 0, 0, -1), -1);
        is("I: DUE 1,000", x.stick(0, 1, 1, 0, 0, 1000), -1);
        is("5: DUE 0", x.at(0, 5), 0);
        is("5: DUE 999", x.at(1, 5), 999);
    }

    private static void sticks() {
        TallySticks x = two();
        for (int i = 0; i < 10; i++) {
            is("I: STICK " + i, x.stick(0, 1, i + 1, i, i % 4, i), i);
            is("37: so many STICKS", x.count(1), i + 1);
        }
        is("I: 10 at most", x.stick(0, 1, 1, 0, 0, 0), -5);
        is("4: -1 ahead of -5", x.stick(0, 1, 0, 0, 0, 0), -1);
        is("4: -2 ahead of -5", x.stick(0, 2, 1, 0, 0, 0), -2);
        is("4: alike ahead of -5", x.stick(0, 0, 1, 0, 0, 0), -1);
        is("I: still 10", x.count(1), 10);
        for (int i = 0; i < 10; i++) {
            is("5: SUM of " + i, x.at(i, 2), i + 1);
        }
        x.give(0, 0);
        is("I: a PAID one keeps its room", x.stick(0, 1, 1, 0, 0, 0), -5);
    }

    private static void notPaidAtFirst() {
        TallySticks x = two();
        x.stick(0, 1, 1, 0, 0, 0);
        is("I: not PAID at first", x.at(0, 6), 0);
        x.image(0);
        x.stick(0, 1, 1, 0, 0, 0);
        x.give(1, 0);
        is("I: PAID", x.at(1, 6), 1);
        x.back(0);
        x.stick(0, 1, 1, 0, 0, 0);
        is("I: not PAID at first, where a PAID one was", x.at(1, 6), 0);
    }

    private static void atSticks() {
        TallySticks x = two();
        x.stick(1, 0, 7, 8, 2, 9);
        is("5: STICK -1", x.at(-1, 0), NONE);
        is("5: STICK 1", x.at(1, 0), NONE);
        is("5: what -1", x.at(0, -1), NONE);
        is("5: what 0", x.at(0, 0), 1);
        is("5: what 8", x.at(0, 8), 2);
        is("5: what 9", x.at(0, 9), NONE);
        for (int i = 0; i < 9; i++) {
            x.stick(0, 1, 1, 0, 0, 0);
        }
        is("5: STICK 9", x.at(9, 2), 1);
        is("5: STICK 10", x.at(10, 2), NONE);
    }

    private static void foilGrain() {
        TallySticks x = new TallySticks();
        is("I: FOIL of GRAIN 0", x.foil(0, 5), 0);
        is("I: FOIL of GRAIN 4,095", x.foil(4095, 5), 1);
        is("I: FOIL of GRAIN -1", x.foil(-1, 5), -1);
        is("I: FOIL of GRAIN 4,096", x.foil(4096, 5), -1);
        is("7: GRAIN 0", x.half(0, 0), 0);
        is("7: GRAIN 4,095", x.half(1, 0), 4095);
    }

    private static void foilSum() {
        TallySticks x = new TallySticks();
        is("I: FOIL of SUM 1", x.foil(5, 1), 0);
        is("I: FOIL of SUM 999", x.foil(5, 999), 1);
        is("I: FOIL of SUM 0", x.foil(5, 0), -1);
        is("I: FOIL of SUM 1,000", x.foil(5, 1000), -1);
        is("7: SUM 1", x.half(0, 1), 1);
        is("7: SUM 999", x.half(1, 1), 999);
    }

    private static void foils() {
        TallySticks x = new TallySticks();
        for (int i = 0; i < 10; i++) {
            is("I: FOIL " + i, x.foil(i, 10 + i), i);
            is("37: so many FOILS", x.count(2), i + 1);
        }
        is("I: 10 at most", x.foil(0, 1), -5);
        is("6: -1 ahead of -5", x.foil(0, 0), -1);
        is("6: -1 ahead of -5", x.foil(4096, 1), -1);
        is("I: still 10", x.count(2), 10);
        for (int i = 0; i < 10; i++) {
            is("7: SUM of " + i, x.half(i, 1), 10 + i);
        }
        is("7: FOIL 10", x.half(10, 0), NONE);
    }

    private static void halves() {
        TallySticks x = new TallySticks();
        x.foil(3, 4);
        is("7: FOIL -1", x.half(-1, 0), NONE);
        is("7: FOIL 1", x.half(1, 0), NONE);
        is("7: what -1", x.half(0, -1), NONE);
        is("7: what 0", x.half(0, 0), 3);
        is("7: what 1", x.half(0, 1), 4);
        is("7: what 2", x.half(0, 2), NONE);
    }

    private static void day() {
        TallySticks x = new TallySticks();
        is("I: DAY -1", x.terms(0, -1), -1);
        is("I: DAY 999", x.terms(0, 999), 0);
        is("I: DAY 1,000", x.terms(0, 1000), -1);
        is("8: it stays", x.count(13), 999);
        is("I: DAY 0", x.terms(0, 0), 999);
        is("37: DAY", x.count(13), 0);
    }

    private static void damp() {
        TallySticks x = new TallySticks();
        is("I: DAMP -1", x.terms(1, -1), -1);
        is("I: DAMP 12, it was 2", x.terms(1, 12), 2);
        is("I: DAMP 13", x.terms(1, 13), -1);
        is("8: it stays", x.count(14), 12);
        is("I: DAMP 0", x.terms(1, 0), 12);
        is("37: DAMP", x.count(14), 0);
    }

    private static void mood() {
        TallySticks x = new TallySticks();
        is("I: MOOD -1", x.terms(2, -1), -1);
        is("I: MOOD 9", x.terms(2, 9), 0);
        is("I: MOOD 10", x.terms(2, 10), -1);
        is("8: it stays", x.count(15), 9);
        is("I: MOOD 0", x.terms(2, 0), 9);
        is("37: MOOD", x.count(15), 0);
    }

    private static void termNumbers() {
        TallySticks x = new TallySticks();
        is("8: TERM -1", x.terms(-1, 0), -1);
        is("8: TERM 3", x.terms(3, 0), -1);
        is("8: none was changed", x.count(13) * 1000 + x.count(14) * 10 + x.count(15), 20);
        is("8: what it was, if it is the same", x.terms(1, 2), 2);
    }

    /** 20 bytes are six threes and two. */
    private static void bytesOfANumber() {
        TallySticks x = new TallySticks();
        is("9: twenty bytes", x.feed(0x01020304, 0x05060708, 0x090A0B0C, 0x0D0E0F10, 0x0B0C0D0E), 20);
        is("11: six FOILS", x.row(), 6);
        is("12: two bytes", x.chips(), 1);
        int[] grains = {0x12, 0x45, 0x78, 0xAB, 0xDE, 0x10B};
        int[] sums = {3, 6, 9, 12, 15, 12};
        for (int i = 0; i < 6; i++) {
            is("9: the highest first, GRAIN of " + i, x.half(i, 0), grains[i]);
            is("9: the highest first, SUM of " + i, x.half(i, 1), sums[i]);
        }
    }

    private static void bytesThatAreNegative() {
        TallySticks x = new TallySticks();
        is("9: all bits set", x.feed(-1, -1, -1, -1, -1), 20);
        x.end(2);
        is("9: behind the TAPE", x.feed(0xFF800000, Integer.MIN_VALUE, Integer.MAX_VALUE, 0, 0), 22);
        x.end(3);
        is("11: second 255", x.row(), 0);
        x.feed(Integer.MIN_VALUE, 0x000F8000, 0, 0, 0);
        x.end(7);
        is("11: 128 0 0, 0 0 15, 128", x.row(), 1);
        is("9: bytes are 0 .. 255", x.half(0, 1), 15);
        x.feed(0x800FFF80, 0x0180FF00, 0, 0, 0);
        x.end(6);
        is("11: 128 15 255, 128 1 128", x.row(), 2);
        is("9: GRAIN 2063", x.half(1, 0), 128 * 16 + 15);
        is("9: SUM 255", x.half(1, 1), 255);
        is("9: GRAIN 2049", x.half(2, 0), 128 * 16 + 1);
        is("9: SUM 128", x.half(2, 1), 128);
    }

    private static void tapeFull() {
        TallySticks x = new TallySticks();
        for (int i = 1; i <= 20; i++) {
            is("9: so many bytes", x.feed(0, 0, 0, 0, i), 20 * i);
        }
        is("II: 400 bytes at most", x.count(6), 400);
        is("9: more than 400", x.feed(1, 1, 1, 1, 1), NONE);
        is("9: none of them came", x.count(6), 400);
        is("38: that is no refusal", x.status(), 0);
        is("37: none was counted", x.count(7), 0);
        is("10: end(381)", x.end(381), 381);
        is("9: 401 would be more", x.feed(1, 1, 1, 1, 1), NONE);
        is("9: none of them came", x.count(6), 381);
        is("10: end(380)", x.end(380), 380);
        is("9: 400 are not more", x.feed(1, 1, 1, 1, 1), 400);
    }

    private static void tapeCut() {
        TallySticks x = new TallySticks();
        x.feed(0, 0, 0, 0, 0);
        is("10: it has not so many", x.end(21), NONE);
        is("10: it has all", x.count(6), 20);
        is("10: n below 0", x.end(-1), NONE);
        is("10: it has all", x.count(6), 20);
        is("10: as many as it has", x.end(20), 20);
        is("10: one less", x.end(19), 19);
        is("10: not again", x.end(20), NONE);
        is("10: none", x.end(0), 0);
        is("37: none", x.count(6), 0);
        is("38: that is no refusal", x.status(), 0);
    }

    private static int rowOf(TallySticks x, int... bytes) {
        StringBuilder all = new StringBuilder();
        for (int b : bytes) {
            all.append((char) b);
        }
        Check.put(x, all.toString());
        return x.row();
    }

    private static void rowSecondByte() {
        TallySticks x = new TallySticks();
        is("IV: second 0", rowOf(x, 7, 0, 9), 1);
        is("IV: GRAIN", x.half(0, 0), 112);
        is("IV: second 15", rowOf(x, 7, 15, 9), 1);
        is("IV: GRAIN", x.half(1, 0), 127);
        is("IV: second 16 can't be", rowOf(x, 7, 16, 9), 0);
        is("12: a CHIP", x.chips(), 1);
        is("IV: second 255 can't be", rowOf(x, 7, 255, 9), 0);
        is("12: a CHIP", x.chips(), 1);
        is("IV: none came of them", x.count(2), 2);
    }

    private static void rowThirdByte() {
        TallySticks x = new TallySticks();
        is("IV: SUM 0 can't be", rowOf(x, 7, 1, 0), 0);
        is("12: a CHIP", x.chips(), 1);
        is("IV: SUM 1", rowOf(x, 7, 1, 1), 1);
        is("7: SUM 1", x.half(0, 1), 1);
        is("IV: SUM 255", rowOf(x, 7, 1, 255), 1);
        is("7: SUM 255", x.half(1, 1), 255);
        is("12: no CHIP", x.chips(), 0);
    }

    private static void rowFirstByte() {
        TallySticks x = new TallySticks();
        is("IV: first 0", rowOf(x, 0, 0, 1), 1);
        is("7: GRAIN 0", x.half(0, 0), 0);
        is("IV: first 255", rowOf(x, 255, 15, 1), 1);
        is("7: GRAIN 4,095", x.half(1, 0), 4095);
    }

    private static void rowEnds() {
        TallySticks x = new TallySticks();
        is("IV: the TAPE ends within the first", rowOf(x, 1), 0);
        is("12: a CHIP", x.chips(), 1);
        is("11: that is not REFUSED", x.status(), 0);
        is("IV: the TAPE ends ahead of a third byte", rowOf(x, 1, 1), 0);
        is("12: a CHIP", x.chips(), 1);
        is("IV: the TAPE ends behind one", rowOf(x, 1, 1, 1), 1);
        is("12: no CHIP", x.chips(), 0);
        is("IV: one byte more", rowOf(x, 1, 1, 1, 1), 1);
        is("12: a CHIP", x.chips(), 1);
        is("IV: two bytes more", rowOf(x, 1, 1, 1, 1, 1), 1);
        is("12: a CHIP", x.chips(), 1);
        is("11: the TAPE is empty then", x.count(6), 0);
        is("IV: what was cut off does not come", x.count(2), 3);
    }

    /** What end() cut off is no byte of the TAPE any more, though it could be a FOIL's. */
    private static void rowEndsAheadOfWhatWasCut() {
        TallySticks x = new TallySticks();
        for (int n = 1; n <= 6; n++) {
            x.feed(0x01010101, 0x01010101, 0x01010101, 0x01010101, 0x01010101);
            x.end(n);
            is("IV: FOILS of " + n + " bytes", x.row(), n / 3);
            is("IV: CHIPS of " + n + " bytes", x.chips(), n % 3 == 0 ? 0 : 1);
        }
    }

    private static void rowRoom() {
        TallySticks x = new TallySticks();
        for (int i = 0; i < 8; i++) {
            x.foil(0, 1);
        }
        is("IV: the last room", rowOf(x, 1, 1, 1, 2, 2, 2), 2);
        is("12: no CHIP", x.chips(), 0);
        is("I: 10", x.count(2), 10);
        is("IV: there is no room", rowOf(x, 3, 3, 3), 0);
        is("12: a CHIP", x.chips(), 1);
        is("11: that is not REFUSED", x.status(), 0);
        is("37: nor counted", x.count(10), 0);
        StringBuilder most = new StringBuilder();
        for (int i = 0; i < 400; i++) {
            most.append((char) 1);
        }
        Check.put(x, most.toString());
        is("11: a full TAPE, no room", x.row(), 0);
        is("12: 133 threes and one byte", x.chips(), 134);
        TallySticks y = new TallySticks();
        Check.put(y, most.toString());
        is("11: a full TAPE", y.row(), 10);
        is("12: the others", y.chips(), 124);
    }

    private static void chipsOfTheLatest() {
        TallySticks x = new TallySticks();
        is("11: REFUSED", x.row(), -6);
        is("12: 0 ahead of any", x.chips(), 0);
        rowOf(x, 1, 16, 1, 1);
        is("12: two", x.chips(), 2);
        is("11: REFUSED", x.row(), -6);
        is("12: of the latest that was not REFUSED", x.chips(), 2);
        rowOf(x, 1, 1, 1);
        is("12: of the latest", x.chips(), 0);
    }

    private static void wildPeopleAndSticks() {
        for (int w : WILD) {
            TallySticks x = two();
            x.stick(0, 1, 5, 6, 1, 7);
            if (w != 4096) {
                is("2: person(" + w + ")", x.person(w), -1);
            }
            is("3: of(" + w + ", 0)", x.of(w, 0), NOTHING);
            is("3: of(0, " + w + ")", x.of(0, w), NOTHING);
            is("4: owes " + w, x.stick(w, 1, 1, 0, 0, 0), -2);
            is("4: holds " + w, x.stick(0, w, 1, 0, 0, 0), -2);
            is("4: both " + w, x.stick(w, w, 1, 0, 0, 0), -1);
            is("4: sum " + w, x.stick(0, 1, w, 0, 0, 0), -1);
            is("4: grain " + w, x.stick(0, 1, 1, w, 0, 0), -1);
            is("4: kind " + w, x.stick(0, 1, 1, 0, w, 0), -1);
            is("4: due " + w, x.stick(0, 1, 1, 0, 0, w), -1);
            is("5: at(" + w + ", 0)", x.at(w, 0), NONE);
            is("5: at(0, " + w + ")", x.at(0, w), NONE);
            is("1: all is as it was", x.count(1) * 10 + x.at(0, 6), 10);
        }
    }

    private static void wildFoilsAndTerms() {
        for (int w : WILD) {
            TallySticks x = two();
            x.foil(5, 6);
            is("6: grain " + w, x.foil(w, 1), -1);
            is("6: sum " + w, x.foil(1, w), -1);
            is("7: half(" + w + ", 0)", x.half(w, 0), NONE);
            is("7: half(0, " + w + ")", x.half(0, w), NONE);
            is("8: terms(" + w + ", 0)", x.terms(w, 0), -1);
            for (int what = 0; what < 3; what++) {
                is("8: terms(" + what + ", " + w + ")", x.terms(what, w), -1);
            }
            is("10: end(" + w + ")", x.end(w), NONE);
            is("37: count(" + w + ")", x.count(w), NONE);
            is("37: FOILS", x.count(2), 1);
            is("37: -1", x.count(7), 6);
        }
    }
}
