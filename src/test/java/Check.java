import java.nio.charset.StandardCharsets;

/** What the tests share: counting wrong answers, and putting texts on the tape. */
final class Check {
    private int wrong = 0;
    private int asked = 0;

    void due(String call, long got, long want) {
        asked++;
        if (got != want) {
            wrong++;
            if (wrong <= 60) {
                System.out.println(call + " answered " + got + ", due is " + want);
            }
        }
    }

    void so(String what, boolean is) {
        due(what, is ? 1 : 0, 1);
    }

    int wrong() {
        return wrong;
    }

    /** Ends the test: exit code 1 if an answer was wrong. */
    void finish(String name) {
        System.out.println(name + ": " + asked + " answers, " + wrong + " wrong");
        if (wrong != 0) {
            System.exit(1);
        }
    }

    /** The five numbers of one feed(), from byte 20 * i of the text; 0 behind its end. */
    static int[] fives(byte[] bytes, int i) {
        int[] numbers = new int[5];
        for (int k = 0; k < 20; k++) {
            int at = 20 * i + k;
            int b = at < bytes.length ? bytes[at] & 255 : 0;
            numbers[k / 4] |= b << (24 - 8 * (k % 4));
        }
        return numbers;
    }

    static byte[] bytesOf(String text) {
        return text.getBytes(StandardCharsets.ISO_8859_1);
    }

    /** Puts a text on an empty tape. */
    static void put(TallySticks x, String text) {
        byte[] bytes = bytesOf(text);
        for (int i = 0; 20 * i < bytes.length; i++) {
            int[] n = fives(bytes, i);
            x.feed(n[0], n[1], n[2], n[3], n[4]);
        }
        x.end(bytes.length);
    }

    static int law(TallySticks x, String text) {
        put(x, text);
        return x.law();
    }

    static int orders(TallySticks x, String text) {
        put(x, text);
        return x.orders();
    }

    /** Two people with purses, and as many sticks from 0 to 1 as there are sums. */
    static TallySticks pair(int purse0, int purse1, int... sums) {
        TallySticks x = new TallySticks();
        x.person(purse0);
        x.person(purse1);
        for (int i = 0; i < sums.length; i++) {
            x.stick(0, 1, sums[i], i, 0, 0);
        }
        return x;
    }
}
