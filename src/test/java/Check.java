import java.nio.charset.StandardCharsets;

/** What the tests share: counting wrong answers, and putting texts on the tape. */
final class Check {
    private int wrong = 0;
    private int asked = 0;

    void due(String call, long got, long want) {
        asked++;
        if (got != want) {
            wrong++;
            if (wrong <= 60) {
                System.out.println(call + " answered " + got + ", due is " + want);
            }
        }
    }

    void so(String what, boolean is) {
        due(what, is ? 1 : 0, 1);
    }

    int wrong() {
        return wrong;
    }

    /** Ends the test: exit code 1 if an answer was wrong. */
    void finish(String name) {
        System.out.println(name + ": " + asked + " answers, " + wrong + " wrong");
        if (wrong != 0) {
            System.exit(1);
        }
    }

    /** The five numbers of one feed(), from byte 20 * i of the text; 0 behind its end. */
    static int[] fives(byte[] bytes, int i) {
        int[] numbers = new int[5];
        for (int k = 0; k < 20; k++) {
            int at = 20 * i + k;
            int b = at < bytes.length ? bytes[at] & 255 : 0;
            numbers[k / 4] |= b << (24 - 8 * (k % 4));
        }
        return numbers;
    }

    static byte[] bytesOf(String text) {
        return text.getBytes(StandardCharsets.ISO_8859_1);
    }

    /** Puts a text on an empty tape. */
    static void put(TallySticks x, String text) {
        byte[] bytes = bytesOf(text);
        for (int i = 0; 20 * i < bytes.length; i++) {
            int[] n = fives(bytes, i);
            x.feed(n[0], n[1], n[2], n[3], n[4]);
        }
        x.end(bytes.length);
    }

    static int law(TallySticks x, String text) {
        put(x, text);
        return x.law();
    }

    static int orders(TallySticks x, String text) {
        put(x, text);
        return x.orders();
    }

    /**
     * All that can be asked of an object, but for status() and how many calls were REFUSED. An object is used for 512
     * calls: this is some 110 of them for a few people and sticks, some 200 for a full one.
     */
    static String seen(TallySticks x) {
        StringBuilder all = new StringBuilder();
        int people = x.count(0);
        int sticks = x.count(1);
        int foils = x.count(2);
        all.append("people=").append(people).append(" sticks=").append(sticks).append(" foils=").append(foils);
        for (int what = 3; what <= 15; what++) {
            if (what < 7 || what > 11) {
                all.append(" count").append(what).append('=').append(x.count(what));
            }
        }
        for (int p = 0; p < people; p++) {
            all.append(" of").append(p).append('=');
            for (int what = 0; what < 4; what++) {
                all.append(x.of(p, what)).append('/');
            }
        }
        for (int s = 0; s < sticks; s++) {
            all.append(" at").append(s).append('=');
            for (int what = 0; what < 9; what++) {
                all.append(x.at(s, what)).append('/');
            }
            all.append(x.asks(s, 1));
        }
        for (int f = 0; f < foils; f++) {
            all.append(" half").append(f).append('=').append(x.half(f, 0)).append('/').append(x.half(f, 1));
        }
        all.append(" fault=").append(x.fault()).append(" stopped=").append(x.stopped()).append(" chips=").append(x.chips());
        for (int k = 0; k < 3; k++) {
            all.append(" drawn").append(k).append('=').append(x.drawn(k, 0)).append('/').append(x.drawn(k, 1)).append('/');
            all.append(x.drawn(k, 2));
        }
        all.append(" paper=").append(x.match(0)).append('/').append(x.odd()).append('/').append(x.apart(1)).append('/');
        all.append(x.settle(0)).append('/').append(x.ring(0)).append('/').append(x.calls(-1)).append('/').append(x.calls(0));
        return all.toString();
    }

    void same(String what, String got, String want) {
        asked++;
        if (!got.equals(want)) {
            wrong++;
            System.out.println(what + ":\n  is  " + got + "\n  was " + want);
        }
    }

    /** Two people with purses, and as many sticks from 0 to 1 as there are sums. */
    static TallySticks pair(int purse0, int purse1, int... sums) {
        TallySticks x = new TallySticks();
        x.person(purse0);
        x.person(purse1);
        for (int i = 0; i < sums.length; i++) {
            x.stick(0, 1, sums[i], i, 0, 0);
        }
        return x;
    }
}
