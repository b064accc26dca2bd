/** Both languages: what is read, where FAULT is, what is BROKEN. */
public final class LanguagesTest {
    private static final int NONE = -1;
    private static final Check CHECK = new Check();

    public static void main(String[] args) {
        lawFaults();
        orderFaults();
        tokens();
        limits();
        sums();
        broken();
        tests();
        lawWords();
        lastThatHolds();
        CHECK.finish("LanguagesTest");
    }

    private static void lawFault(String text, int want) {
        TallySticks x = new TallySticks();
        CHECK.due("law of '" + text + "'", Check.law(x, text), want == NONE ? 0 : -6);
        CHECK.due("fault of law '" + text + "'", x.fault(), want);
    }

    private static void orderFault(String text, int want) {
        TallySticks x = new TallySticks();
        int told = Check.orders(x, text);
        CHECK.due("orders '" + text + "'", told == -6 ? 1 : 0, want == NONE ? 0 : 1);
        CHECK.due("fault of orders '" + text + "'", x.fault(), want);
    }

    /** What a stick pays by the law "pays" with the sum behind it; 77 is its own sum, if that is BROKEN. */
    private static void value(String sum, int want) {
        TallySticks x = Check.pair(500, 600, 77);
        Check.law(x, "pays " + sum);
        x.force(0);
        CHECK.due("'" + sum + "'", x.at(0, 7), want);
        CHECK.due("fault of '" + sum + "'", x.fault(), NONE);
    }

    /** 1 so, 0 not, -1 BROKEN: of the last two neither holds. */
    private static void test(String test, int want) {
        TallySticks x = Check.pair(500, 600, 77);
        Check.law(x, "pays 10; pays 11 if " + test + "; wears 12; wears 1 if not (" + test + ")");
        x.force(0);
        CHECK.due("fault of '" + test + "'", x.fault(), NONE);
        int so = x.at(0, 7) == 11 ? 1 : x.at(0, 8) == 1 ? 0 : NONE;
        CHECK.due("'" + test + "'", so, want);
    }

    private static void lawFaults() {
        lawFault("pays 1", NONE);
        lawFault("bars", NONE);
        lawFault("wears sum+1 if not late<3 or(kind=1 and[day]>2);bars if to=1", NONE);
        lawFault("pays ", 5);
        lawFault("pays 1;", 7);
        lawFault("pays 1; ", 8);
        lawFault(";", 0);
        lawFault("give 1 to 1", 0);
        lawFault("pays 1 times 2", 7);
        lawFault("pays 1 2", 7);
        lawFault("pays 1 bars", 7);
        lawFault("pays 1 if", 9);
        lawFault("pays 1 if day", 13);
        lawFault("pays 1 if day =", 15);
        lawFault("pays 1 if day = 1 = 1", 18);
        lawFault("pays 1 if (day = 1", 18);
        lawFault("pays 1 if (day = 1]", 18);
        lawFault("pays 1 if (day) = 1", 14);
        lawFault("pays 1 if day = 1)", 17);
        lawFault("pays 1 if day = 1 and", 21);
        lawFault("pays 1 if day = 1 not", 18);
        lawFault("pays 1 if not", 13);
        lawFault("pays 1 if [day = 1]", 15);
        lawFault("pays 1 if [day] = 1", NONE);
        lawFault("pays [1", 7);
        lawFault("pays [1)", 7);
        lawFault("pays 1]", 6);
        lawFault("pays []", 6);
        lawFault("pays - 1", 5);
        lawFault("pays 1 +", 8);
        lawFault("pays 1 + * 2", 9);
        lawFault("pays done", 5);
        lawFault("pays latest", 5);
        lawFault("pays holder 1", 5);
        lawFault("pays purse 1", 11);
        lawFault("pays 1000", NONE);
        lawFault("pays 1001", 5);
        lawFault("pays 1 if 2 < 1001", 14);
        lawFault("bars 1", 5);
        lawFault("bars if to = 1; wears", 21);
        lawFault("bars if bars", 8);
        lawFault("bars bars", 5);
    }

    private static void orderFaults() {
        orderFault("pass", NONE);
        orderFault("pass 1", 5);
        orderFault("bars", 0);
        orderFault("give", 4);
        orderFault("give 1 by 2", 7);
        orderFault("give 1 to", 9);
        orderFault("give to 1", 5);
        orderFault("give 1 to 2 to 3", 12);
        orderFault("shave 1 by", 10);
        orderFault("call 1 to 2", 7);
        orderFault("pass times", 10);
        orderFault("pass times 20", NONE);
        orderFault("pass times 21", 11);
        orderFault("pass times 0", 11);
        orderFault("pass times 1 + 1", 13);
        orderFault("pass times day", 11);
        orderFault("pass times 2 times 2", 13);
        orderFault("pass if day = 1 times 2", 16);
        orderFault("pass times 2 if day = 9", NONE);
        orderFault("call purse", 10);
        orderFault("call purse 5 - purse 5", NONE);
        orderFault("call purse 6", 11);
        orderFault("call purse [1]", 11);
        orderFault("call holder 9", NONE);
        orderFault("call holder 10", 12);
        orderFault("call sum 10", 9);
        orderFault("call sum + 1", 9);
        orderFault("call sum day", 9);
        orderFault("call kind", 5);
        orderFault("call mood", 5);
        orderFault("call late", 5);
        orderFault("pass if to = 1", 8);
        orderFault("pass if done = latest", NONE);
        orderFault("pass;;pass", 5);
    }

    private static void tokens() {
        lawFault("pays1", NONE);
        lawFault("pays007", NONE);
        lawFault("pays 0001000", NONE);
        lawFault("pays 99999999999999999999", 5);
        lawFault("pays 4294967296", 5);
        lawFault("payssum", 0);
        lawFault("paYs 1", 0);
        lawFault("pays sumday", 5);
        lawFault("pays sumz", 5);
        lawFault("pays z", 5);
        lawFault("pays 1z", 6);
        lawFault("pays\t1", 4);
        lawFault("pays 1\n", 6);
        lawFault("  pays  1  if  day<1  ", NONE);
        lawFault("pays 1\u0000", 6);
        lawFault("pays \u00e9", 5);
        lawFault("pays 1if day<1and day<1or not(day<1)", NONE);
        lawFault("pays 1 if day <= 1", 15);
        lawFault("pays 1 if day==1", 14);
        orderFault("pass times7if day=3;pass", NONE);
        orderFault("call purse5", NONE);
        orderFault("call purse05", NONE);
        orderFault("pass times 020", NONE);
        value("0000000000000000000000000000000000000000000000012", 12);
    }

    private static String many(String text, String between, int times) {
        return String.join(between, java.util.Collections.nCopies(times, text));
    }

    private static void limits() {
        lawFault(many("bars", ";", 12), NONE);
        lawFault(many("bars", ";", 13), 60);
        lawFault(many("bars", ";", 12) + ";", 60);
        lawFault(many("bars", ";", 12) + " ; !", 62);
        orderFault(many("pass", ";", 12), NONE);
        orderFault(many("pass", ";", 13), 60);
        lawFault("pays " + many("1", "+", 50), NONE);
        lawFault("pays " + many("1", "+", 51), 105);
        lawFault("pays " + many("1", "+", 49) + ";bars if sum=1", 115);
        lawFault("pays " + many("1", "+", 48) + ";bars if sum=1", NONE);
        lawFault("pays " + many("1", "+", 50) + "+[1", 106);
        lawFault("pays " + many("1", "+", 50) + "+", 105);
        lawFault("pays " + many("1", "+", 50) + " if", 107);
        orderFault("call " + many("sum 1", "+", 50), NONE);
        orderFault("call " + many("sum 1", "+", 51), 305);
        orderFault("pass times 3;call " + many("1", "+", 50), NONE);
        lawFault("pays " + many("[", "", 8) + "1" + many("]", "", 8), NONE);
        lawFault("pays " + many("[", "", 9) + "1" + many("]", "", 9), 13);
        String eight = many("[", "", 8) + "0" + many("]", "", 8);
        orderFault("give " + eight + " to " + eight, NONE);
        orderFault("shave " + eight + " by [" + eight + "]", 35);
        orderFault("shave [" + eight + "] by 1", 14);
        lawFault("bars if " + many("(", "", 8) + "1=1" + many(")", "", 8), NONE);
        lawFault("bars if " + many("(", "", 9) + "1=1" + many(")", "", 9), 16);
        lawFault("bars if " + many("(", "", 5) + "[[[1]]]=1" + many(")", "", 5), NONE);
        lawFault("bars if " + many("(", "", 5) + "[[[[1]]]]=1" + many(")", "", 5), 16);
        lawFault("pays " + many("[1]", "+", 40), NONE);
        lawFault("bars if " + many("not", " ", 96) + " 1=1", NONE);
        lawFault("bars if " + many("not", " ", 98), 399);
        lawFault(many(" ", "", 400), 400);
        test(many("not", " ", 40) + " 1=1", 1);
        test(many("not", " ", 39) + " 1=1", 0);
    }

    private static void sums() {
        value("2+3*4", 14);
        value("[2+3]*4", 20);
        value("20-3-4", 13);
        value("100/7/2", 7);
        value("100%7*3", 6);
        value("7-9+5", 3);
        value("0-[0-7]/2", 3);
        value("5+[0-7]%3", 4);
        value("10-7%[0-3]", 9);
        value("2*[3+[4-1]]*2", 24);
        value("1000*1000*1000/1000/1000", 1000);
        value("0-1000*1000*1000+1000*1000*999+1000*1000+5", 5);
    }

    private static void broken() {
        value("1000*1000*1000+1-1000*1000*1000", 77);
        value("0-1000*1000*1000-1+1000*1000*1000", 77);
        value("1000*1000*1000*1000/1000/1000/1000", 77);
        value("1/0", 77);
        value("1%0", 77);
        value("0*[1/[1-1]]", 77);
        value("5 if 1/0=1", 77);
        value("5;pays 6 if 1/0=1;pays 1/0", 5);
    }

    private static void tests() {
        test("1<2", 1);
        test("2<1", 0);
        test("2>1", 1);
        test("1>1", 0);
        test("1=1", 1);
        test("1+1=2*1", 1);
        test("1=2 or 2=2", 1);
        test("1=2 or 2=3", 0);
        test("1=1 and 2=3", 0);
        test("1=1 or 1=1 and 1=2", 1);
        test("(1=1 or 1=1) and 1=2", 0);
        test("not 1=2 and 1=1", 1);
        test("not 1=1 or 1=1", 1);
        test("not (1=1 or 1=1)", 0);
        test("not not 1=1", 1);
        test("1/0=1", NONE);
        test("not 1/0=1", NONE);
        test("1=1 or 1/0=1", 1);
        test("1=2 or 1/0=1", NONE);
        test("1/0=1 or 1=1", NONE);
        test("1=2 and 1/0=1", 0);
        test("1=1 and 1/0=1", NONE);
        test("1/0=1 and 1=2", NONE);
        test("1=2 and 1/0=1 or 1=1", 1);
        test("1=1 or 1/0=1 and 1/0=1", 1);
        test("1=1 or 1/0=1 or 1/0=1", 1);
        test("1=2 and 1/0=1 and 1/0=1", 0);
        test("not (1=1 or 1/0=1)", 0);
        test("(1=2 and 1%0=1) or not (1=1 or 2/0=1)", 0);
        test("1=2 or 1=1 or 1/0=1", 1);
        test("1=1 and 1=2 and 1/0=1", 0);
    }

    private static void lawWords() {
        TallySticks x = new TallySticks();
        x.person(5);
        x.person(6);
        x.person(7);
        x.person(8);
        x.stick(3, 2, 40, 0, 1, 15);
        x.terms(0, 12);
        x.terms(2, 9);
        String[] words = {"owes", "holds", "sum", "kind", "late+100", "purse", "to+100", "day", "mood"};
        int[] want = {3, 2, 40, 1, 97, 8, 99, 12, 9};
        x.image(0);
        for (int i = 0; i < words.length; i++) {
            x.back(0);
            Check.law(x, "pays " + words[i]);
            x.force(0);
            CHECK.due("word " + words[i], x.at(0, 7), want[i]);
        }
        x.back(0);
        Check.law(x, "wears 5 if to < 0; wears 7 if to > 0; pays 9 if to = 0 - 1");
        x.force(0);
        CHECK.due("to of wears", x.at(0, 8), 5);
        CHECK.due("to of pays", x.at(0, 7), 9);
        Check.law(x, "bars if to > 1 and late = 0 - 3");
        x.force(1);
        for (int p = 0; p < 4; p++) {
            CHECK.due("to " + p, x.asks(0, p), p > 1 ? 1 : 0);
        }
    }

    private static void lastThatHolds() {
        TallySticks x = Check.pair(500, 600, 77);
        Check.law(x, "pays 1; pays 2 if mood = 1; pays 3 if mood = 2; pays 1/0 if mood = 3; pays 4 if mood = 2");
        x.force(0);
        int[] want = {1, 2, 4, 1};
        for (int mood = 0; mood < want.length; mood++) {
            x.terms(2, mood);
            CHECK.due("mood " + mood, x.at(0, 7), want[mood]);
        }
        x.terms(1, 5);
        CHECK.due("no wears: damp", x.at(0, 8), 5);
        CHECK.due("no bars", x.asks(0, 0), 0);
    }
}
