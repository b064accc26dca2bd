import java.util.ArrayList;
import java.util.List;

/** At each place of both languages each TOKEN, and behind it each again: where FAULT is due by the oracle's state machine. */
public final class FaultPlacesTest {
    private static final String[] TOKENS = {"pays", "wears", "bars", "give", "call", "shave", "pass", "to", "by", "times", "if",
        "or", "and", "not", "(", ")", "[", "]", "<", ">", "=", "+", "-", "*", "/", "%", ";", "0", "5", "6", "9", "10", "20",
        "21", "1000", "1001", "owes", "holds", "sum", "kind", "late", "purse", "day", "mood", "done", "latest", "holder", "?"};
    private static final String[] LAWS = {"", "pays", "wears 1", "pays sum +", "pays [", "pays [ 1", "pays [ 1 ]", "bars",
        "bars if", "bars if not", "bars if (", "bars if ( ( 1 = 1", "bars if ( 1 = 1 )", "bars if 1", "bars if 1 <",
        "bars if 1 > 1", "bars if 1 = 1 and", "bars if 1 = 1 or", "bars if [ 1 ] =", "bars if ( [ 1", "pays 1 if 1 = 1 ;", "pays 1 ;"};
    private static final String[] ORDERS = {"", "give", "give 1", "give 1 to", "give 1 to 1", "call", "call [", "call [ 1", "call 9",
        "call purse", "call holder", "call sum", "call sum 1", "shave", "shave 9", "shave 9 by", "shave 9 by 1", "pass",
        "pass times", "pass times 2", "pass if", "pass times 2 if", "pass if 1 = 1", "pass if done", "pass ;"};
    private static final int TEXTS_OF_ONE = 60;
    private static final Check CHECK = new Check();

    private static TallySticks x;
    private static int texts = 0;

    public static void main(String[] args) {
        behind(LAWS, true);
        behind(ORDERS, false);
        CHECK.finish("FaultPlacesTest");
    }

    private static void behind(String[] beginnings, boolean law) {
        for (String beginning : beginnings) {
            ask(beginning, law);
            for (String first : TOKENS) {
                ask(beginning + " " + first, law);
                for (String second : TOKENS) {
                    ask(beginning + " " + first + " " + second, law);
                }
            }
        }
    }

    private static void ask(String text, boolean law) {
        List<Integer> bytes = new ArrayList<>();
        for (byte b : Check.bytesOf(text)) {
            bytes.add(b & 255);
        }
        int want = new Oracle.Text(bytes, law).fault();
        if (texts % TEXTS_OF_ONE == 0) {
            x = new TallySticks();
            x.image(0);
        }
        texts++;
        int told = law ? Check.law(x, text) : Check.orders(x, text);
        CHECK.due("FAULT of '" + text + "'", x.fault(), want);
        CHECK.so("'" + text + "' is REFUSED by -6: " + told, told == -6 == (want != -1));
        if (law && told >= 0) {
            x.back(0);
        }
    }
}
