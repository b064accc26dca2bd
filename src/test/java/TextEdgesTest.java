import java.util.Collections;

/**
 * Terms II, and promises 13 to 18: where a TEXT has its FAULT, what is BROKEN, what LAWS and ORDERS tell at an edge.
 * The texts in capitals tell the sentence of the document.
 */
public final class TextEdgesTest {
    private static final int NONE = -1;
    private static final Check CHECK = new Check();

    public static void main(String[] args) {
        letters();
        digits();
        singleBytes();
        blanks();
        longestRows();
        wholeTape();
        faultAtTheEnd();
        faultWhereOneIsLeftOut();
        clausesAtMost();
        numberLimit();
        timesLimit();
        personLimit();
        stickLimit();
        partsAtMost();
        whatIsNoPart();
        bracketsAtMost();
        bracketsBesideOneAnother();
        eachTextAnew();
        farthest();
        farthestBelow();
        wrapsAround();
        dividedByNothing();
        cutTowardsNothing();
        brokenTests();
        notOfEach();
        laterPartsThatDoNotMatter();
        laterPartsThatMatter();
        lawsAtMost();
        lawOrder();
        lawLeavesFault();
        forceLimits();
        wordsAtTheirEdges();
        toOfTheOthers();
        paysNearest();
        paysWithout();
        wornNearest();
        wornWithout();
        barredOrNot();
        asksOfEach();
        asksLimits();
        wildLaws();
        CHECK.finish("TextEdgesTest");
    }

    private static void is(String call, long got, long want) {
        CHECK.due(call, got, want);
    }

    private static String many(String text, String between, int times) {
        return String.join(between, Collections.nCopies(times, text));
    }

    private static void lawFault(String why, String text, int want) {
        TallySticks x = new TallySticks();
        is(why + ": law of '" + text + "'", Check.law(x, text), want == NONE ? 0 : -6);
        is(why + ": FAULT of law '" + text + "'", x.fault(), want);
    }

    private static void orderFault(String why, String text, int want) {
        TallySticks x = new TallySticks();
        is(why + ": orders '" + text + "'", Check.orders(x, text) == -6 ? 1 : 0, want == NONE ? 0 : 1);
        is(why + ": FAULT of orders '" + text + "'", x.fault(), want);
    }

    /** What a STICK of SUM 77 pays by the law "pays" with the sum behind it. */
    private static void value(String why, String sum, int want) {
        TallySticks x = Check.pair(500, 600, 77);
        Check.law(x, "pays " + sum);
        x.force(0);
        is(why + ": '" + sum + "'", x.at(0, 7), want);
        is(why + ": FAULT of '" + sum + "'", x.fault(), NONE);
    }

    /** 1 so, 0 not, -1 BROKEN. */
    private static void test(String why, String test, int want) {
        TallySticks x = Check.pair(500, 600, 77);
        Check.law(x, "pays 1 if " + test + "; wears 1 if not (" + test + ")");
        x.force(0);
        is(why + ": FAULT of '" + test + "'", x.fault(), NONE);
        is(why + ": '" + test + "'", x.at(0, 7) == 1 ? 1 : x.at(0, 8) == 1 ? 0 : NONE, want);
    }

    private static void letters() {
        lawFault("letters a .. z", "bars", NONE);
        lawFault("the byte ahead of a", "bars`", 4);
        lawFault("the byte behind z", "bars{", 4);
        lawFault("a great letter", "barS", 0);
        lawFault("a word that goes on with z", "barsz", 0);
        lawFault("another first letter", "cars", 0);
        lawFault("another last letter", "bart", 0);
        lawFault("a word that goes on with a", "barsa", 0);
        lawFault("a great Z", "barsZ", 4);
        lawFault("a great A", "barsA", 4);
    }

    private static void digits() {
        lawFault("digits 0 .. 9", "pays 90", NONE);
        lawFault("the byte ahead of 0", "pays 1/", 7);
        lawFault("the byte behind 9", "pays 1:", 6);
        value("leading 0s", "0009", 9);
        value("a single 0", "0", 0);
    }

    private static void singleBytes() {
        orderFault("one byte a TOKEN", "pass;;", 5);
        lawFault("one byte a TOKEN", "bars if 1<=2", 10);
        lawFault("byte 0", "bars\u0000", 4);
        lawFault("byte 127", "bars\u007f", 4);
        lawFault("byte 128", "bars\u0080", 4);
        lawFault("byte 255", "bars\u00ff", 4);
        lawFault("byte 255 first", "\u00ff", 0);
        lawFault("a byte whose low bits are those of a letter", "\u00e2ars", 0);
    }

    private static void blanks() {
        lawFault("any blanks", "   bars   if   1   =   1   ", NONE);
        lawFault("no blanks", "bars if 1=1;pays 2", NONE);
        lawFault("31 is no blank", "bars\u001f", 4);
        lawFault("33 is no blank", "bars!", 4);
        lawFault("160 is no blank", "bars\u00a0", 4);
        lawFault("a tab is no blank", "\tbars", 0);
        lawFault("blanks part a row", "ba rs", 0);
        lawFault("blanks part digits", "pays 1 0", 7);
    }

    private static void longestRows() {
        lawFault("letters, then digits", "pays1", NONE);
        lawFault("digits, then letters", "bars if 1=1and 2=2", NONE);
        lawFault("a longer word", "pays sumsum", 5);
        lawFault("a shorter word", "pays su", 5);
        lawFault("a longer word than \"to\"", "pays too", 5);
        orderFault("a longer row of digits", "pass times 200", 11);
    }

    /** 400 bytes are a TEXT like any other. */
    private static void wholeTape() {
        String text = "pays 5" + many(" ", "", 393) + "5";
        lawFault("400 bytes, the last one wrong", text, 399);
        lawFault("400 bytes, all fine", "pays 5" + many(" ", "", 393) + " ", NONE);
        lawFault("400 bytes, the last one read", "pays" + many(" ", "", 395) + "5", NONE);
        lawFault("400 bytes, more to come", "pays 5" + many(" ", "", 393) + "+", 400);
        lawFault("blanks alone", many(" ", "", 400), 400);
        lawFault("a row of 396 digits", "pays" + many("0", "", 395) + "7", NONE);
        lawFault("a row of 396 digits, too great", "pays" + many("9", "", 396), 4);
        lawFault("a row of 400 letters", many("b", "", 400), 0);
        String tests = "bars if " + many("(1=1)", "or", 25) + many(" ", "", 219);
        lawFault("many tests", tests, NONE);
        lawFault("many nots", "bars if " + many("not", " ", 97) + " 1=1", NONE);
    }

    private static void faultAtTheEnd() {
        lawFault("the end: the TEXT's length", "", 0);
        lawFault("blanks alone", " ", 1);
        lawFault("behind a head", "pays", 4);
        lawFault("behind a head and blanks", "pays   ", 7);
        lawFault("behind ;", "bars;", 5);
        lawFault("behind an if", "bars if", 7);
        lawFault("behind a sum in a test", "bars if 1", 9);
        lawFault("behind <", "bars if 1<", 10);
        lawFault("behind an open (", "bars if (1=1", 12);
        lawFault("behind an open [", "pays [1", 7);
        lawFault("behind and", "bars if 1=1 and", 15);
        lawFault("behind or", "bars if 1=1 or ", 15);
        lawFault("behind not", "bars if not", 11);
        orderFault("blanks alone", "  ", 2);
        orderFault("behind times", "pass times", 10);
        orderFault("behind purse", "call purse", 10);
        orderFault("ahead of to", "give 1", 6);
        orderFault("behind to", "give 1 to", 9);
        orderFault("ahead of by", "shave 1 ", 8);
        orderFault("behind by", "shave 1 by", 10);
    }

    /** What is left out has its FAULT where it should stand, though what follows could be read. */
    private static void faultWhereOneIsLeftOut() {
        lawFault("no < > =", "bars if 1 2", 10);
        lawFault("no < > =, [", "bars if 1[2]", 9);
        lawFault("no < > =, (", "bars if 1(2=2)", 9);
        lawFault("no sum ahead of =", "bars if =1", 8);
        lawFault("no sum behind =", "bars if 1=;bars", 10);
        lawFault("no sum", "pays if 1=1", 5);
        lawFault("no test", "bars if ;bars", 8);
        lawFault("no ;", "bars bars", 5);
        lawFault("no CLAUSE", "bars;;bars", 5);
        lawFault("no if", "bars 1=1", 5);
        lawFault("no and", "bars if 1=1 1=1", 12);
        lawFault("no sign", "pays 1 2", 7);
        lawFault("no sign, [", "pays 1[2]", 6);
        lawFault("no ]", "pays [1;bars", 7);
        lawFault("no )", "bars if (1=1;bars", 12);
        orderFault("no to", "give 1 2", 7);
        orderFault("no to, [", "give 1[2]", 6);
        orderFault("no by", "shave 1 2", 8);
        orderFault("no TIMES", "pass times if 1=1", 11);
        orderFault("no P", "call purse + 1", 11);
        orderFault("no S", "call holder ; pass", 12);
    }

    private static void clausesAtMost() {
        lawFault("12 CLAUSES", many("bars", ";", 12), NONE);
        lawFault("FAULT at the 13th's first TOKEN", many("bars", ";", 13), 60);
        lawFault("not at the ; ahead of it", many("bars", ";", 12) + "  ;  bars", 64);
        lawFault("whatever it is", many("bars", ";", 12) + ";?", 60);
        lawFault("the end, too", many("bars", ";", 12) + "; ", 61);
        lawFault("a FAULT ahead of it", many("bars", ";", 11) + ";bars 1;bars", 60);
        orderFault("12 CLAUSES", many("pass", ";", 12), NONE);
        orderFault("FAULT at the 13th's first TOKEN", many("pass", ";", 13), 60);
        TallySticks x = Check.pair(500, 600, 77);
        Check.law(x, many("pays 1", ";", 11) + ";pays 12");
        x.force(0);
        is("the 12th CLAUSE is asked", x.at(0, 7), 12);
        TallySticks y = new TallySticks();
        is("the 12th CLAUSE is run", Check.orders(y, many("pass", ";", 12)), 12);
        is("16: the 12th", Check.orders(y, many("pass", ";", 11) + ";call 0"), -3);
        is("16: the 12th", y.stopped(), 11);
        is("all is as it was", y.count(13), 12);
    }

    private static void numberLimit() {
        value("0", "0", 0);
        value("to 1,000", "1000", 1000);
        lawFault("1,001", "pays 1001", 5);
        lawFault("1,001 in a test", "bars if 1=1001", 10);
        lawFault("2 to the 32nd", "pays 4294967296", 5);
        lawFault("2 to the 32nd and 1", "pays 4294967297", 5);
        lawFault("2 to the 64th and 1", "pays 18446744073709551617", 5);
        orderFault("to 1,000", "call 1000", NONE);
        orderFault("1,001", "call 1001", 5);
        orderFault("1,001 as who", "give 0 to 1001", 10);
    }

    private static void timesLimit() {
        TallySticks x = new TallySticks();
        is("TIMES 1", Check.orders(x, "pass times 1"), 1);
        is("TIMES 20", Check.orders(x, "pass times 20"), 20);
        is("once without", Check.orders(x, "pass"), 1);
        is("so many DAYS", x.count(13), 22);
        orderFault("TIMES 0", "pass times 0", 11);
        orderFault("TIMES 21", "pass times 21", 11);
        orderFault("TIMES 1,000", "pass times 1000", 11);
        orderFault("TIMES 2 to the 32nd and 1", "pass times 4294967297", 11);
        orderFault("TIMES is a NUMBER", "pass times day", 11);
        orderFault("TIMES is no SUM", "pass times 1+1", 12);
        orderFault("TIMES is no [SUM]", "pass times [1]", 11);
        orderFault("TIMES once", "pass times 1 times 1", 13);
        lawFault("a LAW has none", "bars times 1", 5);
    }

    private static void personLimit() {
        orderFault("P 0", "call purse 0", NONE);
        orderFault("P 5", "call purse 5", NONE);
        orderFault("P 6", "call purse 6", 11);
        orderFault("P 1,000", "call purse 1000", 11);
        orderFault("P 2 to the 32nd", "call purse 4294967296", 11);
        orderFault("P is a NUMBER", "call purse day", 11);
        orderFault("P is no SUM", "call purse [1]", 11);
        TallySticks x = Check.pair(7, 600, 1, 1, 1);
        is("purse of the last PERSON", Check.orders(x, "pass if purse 1 = 600"), 1);
        is("-1 without such a PERSON", Check.orders(x, "pass if purse 2 + 1 = 0"), 1);
        is("-1 without such a PERSON", Check.orders(x, "pass if purse 5 + 1 = 0"), 1);
    }

    private static void stickLimit() {
        orderFault("S 0", "call holder 0", NONE);
        orderFault("S 9", "call holder 9", NONE);
        orderFault("S 10", "call holder 10", 12);
        orderFault("S 0", "call sum 0", NONE);
        orderFault("S 9", "call sum 9", NONE);
        orderFault("S 10", "call sum 10", 9);
        orderFault("S 1,001", "call sum 1001", 9);
        orderFault("S is a NUMBER", "call sum + 1", 9);
        TallySticks x = Check.pair(7, 600, 11, 12, 13);
        is("holder of the last STICK", Check.orders(x, "pass if holder 2 = 1"), 1);
        is("sum of the last STICK", Check.orders(x, "pass if sum 2 = 13"), 1);
        is("-1 without such a STICK, holder", Check.orders(x, "pass if holder 3 + 1 = 0"), 1);
        is("-1 without such a STICK, sum", Check.orders(x, "pass if sum 3 + 1 = 0"), 1);
        is("-1 without such a STICK, holder 9", Check.orders(x, "pass if holder 9 + 1 = 0"), 1);
        is("-1 without such a STICK, sum 9", Check.orders(x, "pass if sum 9 + 1 = 0"), 1);
    }

    private static void partsAtMost() {
        lawFault("50 NUMBERS", "pays " + many("1", "+", 50), NONE);
        lawFault("FAULT at the 51st", "pays " + many("1", "+", 51), 105);
        lawFault("50 words", "pays " + many("sum", "+", 50), NONE);
        lawFault("FAULT at the 51st word", "pays " + many("sum", "+", 51), 205);
        lawFault("of all CLAUSES together", "pays " + many("1", "+", 25) + ";pays " + many("1", "+", 25), NONE);
        lawFault("of all CLAUSES together", "pays " + many("1", "+", 25) + ";pays " + many("1", "+", 26), 110);
        lawFault("in a test", "bars if " + many("1=1", "or", 25), NONE);
        lawFault("the 51st in a test", "bars if " + many("1=1", "or", 25) + "or 1=1", 134);
        lawFault("the 51st in brackets", "pays " + many("1", "+", 50) + "+[1]", 106);
        lawFault("what can't be a PART has its FAULT there", "pays " + many("1", "+", 50) + "+;", 105);
        lawFault("no 51st: no FAULT", "pays " + many("1", "+", 50) + ";bars", NONE);
        lawFault("the end ahead of the 51st", "pays " + many("1", "+", 50) + "+", 105);
        value("50 are told", many("1", "+", 50), 50);
        orderFault("50 in ORDERS", "call " + many("1", "+", 50), NONE);
        orderFault("FAULT at the 51st", "call " + many("1", "+", 51), 105);
    }

    private static void whatIsNoPart() {
        orderFault("P and S aside", "call " + many("sum 1", "+", 50), NONE);
        orderFault("FAULT at the word", "call " + many("sum 1", "+", 50) + "+sum 1", 305);
        orderFault("FAULT at the word, not at its number", "call " + many("1", "+", 50) + "+holder 10", 105);
        orderFault("TIMES aside", many("pass times 2", ";", 11) + ";call " + many("1", "+", 50), NONE);
        lawFault("brackets aside", "pays " + many("[1]", "+", 50), NONE);
        orderFault("both SUMS count", "give " + many("1", "+", 25) + " to " + many("1", "+", 25), NONE);
        orderFault("both SUMS count", "give " + many("1", "+", 25) + " to " + many("1", "+", 26), 108);
    }

    private static void bracketsAtMost() {
        String eight = many("[", "", 8);
        lawFault("8 of [", "pays " + eight + "1" + many("]", "", 8), NONE);
        lawFault("FAULT at the 9th [", "pays " + eight + "[1" + many("]", "", 9), 13);
        lawFault("8 of (", "bars if " + many("(", "", 8) + "1=1" + many(")", "", 8), NONE);
        lawFault("FAULT at the 9th (", "bars if " + many("(", "", 9) + "1=1" + many(")", "", 9), 16);
        lawFault("of both kinds 8", "bars if " + many("(", "", 7) + "[1]=1" + many(")", "", 7), NONE);
        lawFault("FAULT at the 9th of both kinds", "bars if " + many("(", "", 8) + "[1]=1" + many(")", "", 8), 16);
        lawFault("FAULT at the 9th, right of <", "bars if " + many("(", "", 8) + "1<[1]" + many(")", "", 8), 18);
        lawFault("FAULT at the 9th behind not", "bars if " + many("(", "", 8) + "not (1=1)" + many(")", "", 8), 20);
        orderFault("8 in ORDERS", "call " + eight + "1" + many("]", "", 8), NONE);
        orderFault("FAULT at the 9th", "call " + eight + " [1" + many("]", "", 9), 14);
        String both = eight + "1" + many("]", "", 8);
        orderFault("8 in each SUM", "give " + both + " to " + both, NONE);
        orderFault("FAULT at the 9th of the first SUM", "give [" + both + "] to " + both, 13);
        orderFault("FAULT at the 9th of the second SUM", "give " + both + " to [" + both + "]", 34);
        value("the most that can wait for what is in 8 brackets", "0+1*" + many("[0+1*", "", 8) + "6" + many("]", "", 8), 6);
        test("the same, right of =", "6=0+1*" + many("[0+1*", "", 7) + "6" + many("]", "", 7), 1);
        value("8 are told", eight + "3" + many("]", "", 8) + "+1", 4);
    }

    private static void bracketsBesideOneAnother() {
        String eight = many("[", "", 8) + "1" + many("]", "", 8);
        value("each is closed again", eight + "+" + eight + "*" + eight, 2);
        lawFault("in the next CLAUSE anew", "pays " + eight + ";pays " + eight, NONE);
        lawFault("behind some closed ones", "pays " + eight + "+[" + eight + "]", 31);
        String seven = many("[", "", 7) + "1" + many("]", "", 7);
        test("of both kinds", many("(", "", 7) + "1=1" + many(")", "", 7) + " and " + seven + "=1", 1);
    }

    /** What one TEXT has used up is there again for the next. */
    private static void eachTextAnew() {
        TallySticks x = new TallySticks();
        x.image(0);
        String fifty = "pays " + many("1", "+", 50);
        String deep = "pays " + many("[", "", 8) + "1";
        for (int i = 0; i < 12; i++) {
            is("50 PARTS of the TEXT alone", Check.law(x, fifty), 0);
            x.back(0);
            is("8 brackets left open", Check.law(x, deep), -6);
            is("FAULT at its end", x.fault(), 14);
            is("8 brackets of the TEXT alone", Check.law(x, deep + many("]", "", 8)), 0);
            x.back(0);
        }
        is("12 CLAUSES of the TEXT alone", Check.law(x, many("bars", ";", 12)), 0);
        is("12 CLAUSES of the TEXT alone", Check.law(x, many("bars", ";", 11) + ";pays 8"), 1);
        x.person(1);
        x.person(1);
        x.stick(0, 1, 5, 0, 0, 0);
        x.force(1);
        is("the last of them is asked", x.at(0, 7), 8);
    }

    private static void farthest() {
        value("1,000,000,000 is not BROKEN", "1000*1000*1000/1000/1000", 1000);
        value("1,000,000,001 is BROKEN", "[1000*1000*1000+1]/1000/1000", 77);
        value("on the way, too", "1000*1000*1000+1-1000*1000*1000", 77);
        value("by *", "1000*1000*1000*2/1000/1000", 77);
        value("999,999,999", "[1000*1000*1000-1]/1000/1000", 999);
        value("back from 1,000,000,000", "1000*1000*1000-1000*1000*1000+3", 3);
        test("in a TEST not BROKEN", "1000*1000*1000=1000*1000*1000", 1);
        test("in a TEST BROKEN", "1000*1000*1000+1>1", NONE);
    }

    private static void farthestBelow() {
        value("-1,000,000,000 is not BROKEN", "[0-1000*1000*1000]/1000/1000+1000+5", 5);
        value("-1,000,000,001 is BROKEN", "[0-1000*1000*1000-1]/1000/1000+1000+5", 77);
        value("on the way, too", "0-1000*1000*1000-1+1000*1000*1000+6", 77);
        value("by *", "[0-1000]*1000*1000*2/1000+1000*1000*2+5", 77);
        value("-999,999,999", "[0-1000*1000*1000+1]/1000/1000+1000+5", 6);
        test("in a TEST not BROKEN", "0-1000*1000*1000<0", 1);
        test("in a TEST BROKEN", "0-1000*1000*1000-1<0", NONE);
    }

    /** Each would be a small number again, if it wrapped around. */
    private static void wrapsAround() {
        value("5,000,000,000", "1000*1000*1000*5/1000/1000", 77);
        value("1,000,000,000,000", "1000*1000*[1000*1000]", 77);
        value("10 to the 18th", "[1000*1000*1000]*[1000*1000*1000]", 77);
        value("65,536 times 65,536", "[256*256]*[256*256]", 77);
        value("-65,536 times 65,536", "[0-256*256]*[256*256]", 77);
        value("-10 to the 18th", "[0-1000*1000*1000]*[1000*1000*1000]", 77);
        value("2,000,000,000", "1000*1000*1000+1000*1000*1000", 77);
        value("-2,000,000,000", "0-1000*1000*1000-1000*1000*1000", 77);
        value("a third time", "1000*1000*1000+1000*1000*1000+1000*1000*1000", 77);
    }

    private static void dividedByNothing() {
        value("/ 0", "1/0", 77);
        value("% 0", "1%0", 77);
        value("0 / 0", "0/0", 77);
        value("0 % 0", "0%0", 77);
        value("/ a SUM that is 0", "5/[3-3]", 77);
        value("times 0", "0*[1/0]", 77);
        value("/ 1", "5/1", 5);
        value("% 1", "5%1", 0);
        test("in a TEST", "1/0=1/0", NONE);
        test("in a TEST, right of <", "1<1%0", NONE);
    }

    private static void cutTowardsNothing() {
        value("7/2", "7/2", 3);
        value("-7/2", "[0-7]/2+10", 7);
        value("7/-2", "7/[0-2]+10", 7);
        value("-7/-2", "[0-7]/[0-2]", 3);
        value("1/2", "1/2", 0);
        value("-1/2", "[0-1]/2+10", 10);
        value("7%2", "7%2", 1);
        value("-7%2", "[0-7]%2+10", 9);
        value("7%-2", "7%[0-2]+10", 11);
        value("-7%-2", "[0-7]%[0-2]+10", 9);
        value("6%3", "6%3", 0);
    }

    private static void brokenTests() {
        test("not", "not 1/0=1", NONE);
        test("not not", "not not 1/0=1", NONE);
        test("in (", "(1/0=1)", NONE);
        test("asked first, or", "1/0=1 or 1=1", NONE);
        test("asked first, and", "1/0=1 and 1=2", NONE);
    }

    private static void notOfEach() {
        test("not of = that is so", "not 1=1", 0);
        test("not of = that is not so", "not 1=2", 1);
        test("not of < that is so", "not 1<2", 0);
        test("not of < that is not so", "not 1<1", 1);
        test("not of > that is so", "not 2>1", 0);
        test("not of > that is not so", "not 1>1", 1);
        test("not of a not that is so", "not (not 1=2)", 0);
        test("not of a not that is not so", "not (not 1=1)", 1);
        test("not behind and", "1=1 and not 1=2", 1);
        test("and behind not", "not 1=1 and 1=1", 0);
        test("or behind not", "not 1=1 or 1=1", 1);
    }

    private static void laterPartsThatDoNotMatter() {
        test("or behind what is so", "1=1 or 1/0=1", 1);
        test("and behind what is not so", "1=2 and 1/0=1", 0);
        test("two or", "1=2 or 1=1 or 1/0=1", 1);
        test("two and", "1=1 and 1=2 and 1/0=1", 0);
        test("and within or", "1=1 or 1=1 and 1/0=1", 1);
        test("or behind an and", "1=2 and 1/0=1 or 1=1", 1);
        test("in (", "(1=1 or 1/0=1) and 1=1", 1);
        test("and behind < that is not so", "1<1 and 1/0=1", 0);
        test("and behind > that is not so", "1>1 and 1/0=1", 0);
        test("or behind < that is so", "1<2 or 1/0=1", 1);
        test("or behind > that is so", "2>1 or 1/0=1", 1);
        test("and behind not that is not so", "not 1=1 and 1/0=1", 0);
        test("or behind not that is so", "not 1=2 or 1/0=1", 1);
        test("not", "not (1=2 and 1/0=1)", 1);
    }

    private static void laterPartsThatMatter() {
        test("or behind what is not so", "1=2 or 1/0=1", NONE);
        test("and behind what is so", "1=1 and 1/0=1", NONE);
        test("the third of or", "1=2 or 1=3 or 1/0=1", NONE);
        test("the third of and", "1=1 and 2=2 and 1/0=1", NONE);
        test("or behind an and that is not so", "1=2 and 1=1 or 1/0=1", NONE);
        test("and within or", "1=2 or 1=1 and 1/0=1", NONE);
        test("not", "not (1=1 and 1/0=1)", NONE);
        test("and behind not that is so", "not 1=2 and 1/0=1", NONE);
        test("or behind not that is not so", "not 1=1 or 1/0=1", NONE);
    }

    private static void lawsAtMost() {
        TallySticks x = new TallySticks();
        for (int i = 0; i < 6; i++) {
            is("II: LAW " + i, Check.law(x, "pays " + i), i);
            is("37: so many LAWS", x.count(4), i + 1);
        }
        is("II: 6 at most", Check.law(x, "pays 6"), -5);
        is("38: no room", x.status(), -5);
        is("37: counted", x.count(10), 1);
        is("13: the TAPE is empty then, too", x.count(6), 0);
        is("37: still 6", x.count(4), 6);
        is("13: -5 ahead of reading what can't be", Check.law(x, "pays"), -5);
        is("15: it was not read", x.fault(), NONE);
        is("13: -5 ahead of -6 of an empty one", x.law(), -5);
        is("37: none by -6", x.count(11), 0);
        is("17: the last LAW", x.force(5), NONE);
        is("17: LAW 6", x.force(6), -2);
        is("II: ORDERS are read", Check.orders(x, "pass"), 1);
    }

    private static void lawOrder() {
        TallySticks x = new TallySticks();
        is("13: a FAULT", Check.law(x, "bars bars"), -6);
        is("13: the TAPE is empty then", x.count(6), 0);
        is("13: no LAW", x.count(4), 0);
        is("15: its place", x.fault(), 5);
        is("13: the first that can be is 0", Check.law(x, "bars"), 0);
        is("15: NONE without", x.fault(), NONE);
        is("13: the TAPE is empty then", x.count(6), 0);
        is("17: it is not in FORCE by that", x.count(12), NONE);
        TallySticks y = Check.pair(500, 600, 77);
        Check.law(y, "pays 12; wears 11; bars; wears 9");
        y.force(0);
        Check.law(y, "pays 1;pays 2;pays 3 !");
        is("a FAULT leaves the LAW in FORCE", y.at(0, 7) * 100 + y.at(0, 8), 1209);
        Check.orders(y, "pass; pass; pass if 1 = 2");
        is("ORDERS leave it", y.at(0, 7) * 100 + y.at(0, 8), 1209);
    }

    private static void lawLeavesFault() {
        TallySticks x = new TallySticks();
        for (int i = 0; i < 6; i++) {
            Check.law(x, "bars");
        }
        Check.orders(x, "pass pass");
        is("15: of ORDERS", x.fault(), 5);
        Check.law(x, "bars");
        is("15: law() did not read", x.fault(), 5);
        x.feed(1, 1, 1, 1, 1);
        x.row();
        is("15: a ROW does not matter", x.fault(), 5);
        x.orders();
        is("15: an empty TEXT", x.fault(), 0);
        Check.orders(x, "call 0");
        is("15: NONE without, though it can't be", x.fault(), NONE);
    }

    private static void forceLimits() {
        TallySticks x = new TallySticks();
        Check.law(x, "bars");
        Check.law(x, "bars");
        is("17: LAW -2", x.force(-2), -2);
        is("17: LAW 2", x.force(2), -2);
        is("37: NONE in FORCE", x.count(12), NONE);
        is("17: the last", x.force(1), NONE);
        is("17: the first", x.force(0), 1);
        is("17: REFUSED", x.force(2), -2);
        is("17: the other stays", x.count(12), 0);
        is("17: the same", x.force(0), 0);
        is("17: NONE", x.force(NONE), 0);
        is("38: was is -1, that is no refusal", x.force(NONE) + x.status(), NONE);
        is("37: three by -2", x.count(8), 3);
    }

    private static void wordsAtTheirEdges() {
        TallySticks x = new TallySticks();
        for (int i = 0; i < 6; i++) {
            x.person(i == 5 ? 9999 : 0);
        }
        x.stick(5, 4, 999, 0, 3, 999);
        x.stick(0, 5, 1, 0, 0, 0);
        x.terms(2, 9);
        Check.law(x, "pays owes*1000+holds*100+kind*10+mood");
        Check.law(x, "pays late+2*1000");
        Check.law(x, "pays purse");
        Check.law(x, "pays day");
        Check.law(x, "pays sum");
        x.force(0);
        is("owes, holds, kind, mood", x.at(0, 7), 5439);
        is("owes, holds, kind, mood", x.at(1, 7), 509);
        x.force(1);
        is("late: DAY 0 less DUE 999", x.at(0, 7), 1001);
        is("late: DAY 0 less DUE 0", x.at(1, 7), 2000);
        x.terms(0, 999);
        is("late: DAY 999 less DUE 999", x.at(0, 7), 2000);
        is("late: DAY 999 less DUE 0", x.at(1, 7), 2999);
        x.force(2);
        is("a full PURSE", x.at(0, 7), 9999);
        is("an empty PURSE", x.at(1, 7), 0);
        x.force(3);
        is("day", x.at(0, 7), 999);
        x.force(4);
        is("sum", x.at(0, 7) * 10 + x.at(1, 7), 9991);
    }

    private static void toOfTheOthers() {
        TallySticks x = Check.pair(500, 600, 77);
        Check.law(x, "pays to+6; wears to+9; bars if to=0");
        x.force(0);
        is("a PERSON of bars", x.asks(0, 0) * 10 + x.asks(0, 1), 10);
        is("-1 of pays", x.at(0, 7), 5);
        is("-1 of wears", x.at(0, 8), 8);
        x.give(0, 0);
        is("bars was asked by give()", x.status(), -3);
        is("-1 of pays", x.at(0, 7), 5);
    }

    private static void paysNearest() {
        value("9,999", "9*1000+999", 9999);
        value("10,000: the nearest", "10*1000", 9999);
        value("1,000,000,000: the nearest", "1000*1000*1000", 9999);
        value("0", "0", 0);
        value("-1: the nearest", "0-1", 0);
        value("-1,000,000,000: the nearest", "0-1000*1000*1000", 0);
    }

    private static void paysWithout() {
        TallySticks x = Check.pair(500, 600, 77, 999, 1);
        is("its SUM, NONE in FORCE", x.at(0, 7), 77);
        is("its SUM, NONE in FORCE", x.at(1, 7), 999);
        Check.law(x, "wears 1; bars");
        Check.law(x, "pays 5 if 1=2");
        Check.law(x, "pays 5 if 1/0=1");
        Check.law(x, "pays 1/0");
        Check.law(x, "pays 6; pays 5 if 1=2; pays 5 if 1/0=1; pays 1/0");
        Check.law(x, "pays 6; pays 7; pays 0");
        int[] want = {77, 77, 77, 77, 6, 0};
        for (int i = 0; i < want.length; i++) {
            x.force(i);
            is("II: PAYS by LAW " + i, x.at(0, 7), want[i]);
        }
    }

    private static void wornNearest() {
        TallySticks x = Check.pair(500, 600, 77);
        Check.law(x, "wears 12");
        Check.law(x, "wears 13");
        Check.law(x, "wears 0");
        Check.law(x, "wears 0-1");
        Check.law(x, "wears 1000*1000*1000");
        Check.law(x, "wears 0-1000*1000*1000");
        int[] want = {12, 12, 0, 0, 12, 0};
        for (int i = 0; i < want.length; i++) {
            x.force(i);
            is("II: WORN by LAW " + i, x.at(0, 8), want[i]);
        }
    }

    private static void wornWithout() {
        TallySticks x = Check.pair(500, 600, 77);
        x.terms(1, 7);
        is("in DAMP, NONE in FORCE", x.at(0, 8), 7);
        Check.law(x, "pays 1; bars");
        Check.law(x, "wears 5 if 1=2");
        Check.law(x, "wears 5 if 1/0=1");
        Check.law(x, "wears 1/0");
        Check.law(x, "wears 6; wears 5 if 1=2; wears 5 if 1/0=1; wears 1/0");
        Check.law(x, "wears 6; wears 3; wears 4");
        int[] want = {7, 7, 7, 7, 6, 4};
        for (int i = 0; i < want.length; i++) {
            x.force(i);
            is("II: WORN by LAW " + i, x.at(0, 8), want[i]);
        }
        x.force(0);
        x.terms(1, 12);
        is("the greatest DAMP", x.at(0, 8), 12);
        x.terms(1, 0);
        is("no DAMP", x.at(0, 8), 0);
    }

    private static void barredOrNot() {
        TallySticks x = Check.pair(500, 600, 77);
        is("NONE in FORCE", x.asks(0, 0), 0);
        Check.law(x, "pays 1; wears 1");
        Check.law(x, "bars if 1=2");
        Check.law(x, "bars if 1/0=1");
        Check.law(x, "bars if 1=1");
        Check.law(x, "bars; bars if 1=2; bars if 1/0=1");
        int[] want = {0, 0, 0, 1, 1};
        for (int i = 0; i < want.length; i++) {
            x.force(i);
            is("II: BARRED by LAW " + i, x.asks(0, 0), want[i]);
        }
        is("from who HOLDS it, too", x.asks(0, 1), 1);
    }

    /** The one that is asked is not the one that was asked last. */
    private static void asksOfEach() {
        TallySticks x = Check.pair(500, 600, 77, 78, 79);
        Check.law(x, "bars if sum=78; pays sum+1; wears sum-70");
        x.force(0);
        is("18: STICK 0", x.asks(0, 0), 0);
        is("18: STICK 1", x.asks(1, 0), 1);
        is("18: STICK 2", x.asks(2, 0), 0);
        is("18: STICK 1", x.asks(1, 0), 1);
        is("5: PAYS of 2", x.at(2, 7), 80);
        is("18: STICK 1", x.asks(1, 0), 1);
        is("5: PAYS of 0", x.at(0, 7), 78);
        is("5: WORN of 2", x.at(2, 8), 9);
        is("19: STICK 1", x.give(1, 0), -3);
        is("5: WORN of 0", x.at(0, 8), 7);
        is("19: STICK 2", x.give(2, 0), 1);
    }

    private static void asksLimits() {
        TallySticks x = Check.pair(500, 600, 77);
        is("18: STICK -1", x.asks(-1, 0), NONE);
        is("18: STICK 1", x.asks(1, 0), NONE);
        is("18: PERSON -1", x.asks(0, -1), NONE);
        is("18: PERSON 1", x.asks(0, 1), 0);
        is("18: PERSON 2", x.asks(0, 2), NONE);
        is("38: that is no refusal", x.status(), 0);
        is("37: nor counted", x.count(7), 0);
        x.give(0, 0);
        Check.law(x, "bars");
        x.force(0);
        is("18: of a PAID one", x.asks(0, 0), 1);
    }

    private static void wildLaws() {
        int[] wild = {Integer.MIN_VALUE, Integer.MIN_VALUE + 1, -1000000, -2, 6, 65536, Integer.MAX_VALUE - 1, Integer.MAX_VALUE};
        TallySticks x = Check.pair(500, 600, 77);
        Check.law(x, "pays 5");
        x.force(0);
        for (int w : wild) {
            is("17: force(" + w + ")", x.force(w), -2);
            is("18: asks(" + w + ", 0)", x.asks(w, 0), NONE);
            is("18: asks(0, " + w + ")", x.asks(0, w), NONE);
        }
        is("37: by -2", x.count(8), wild.length);
        is("II: still in FORCE", x.at(0, 7), 5);
    }
}
