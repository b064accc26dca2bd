import java.util.List;
import java.util.Random;

/** Runs of random calls, the same in every run of the test, with the oracle's answers as due. */
public final class RandomRunsTest {
    private static final int RUNS = 600;
    private static final int CALLS = 512;
    private static final int NONE = TallySticks.NONE;
    private static final String[] LAW_WORDS = {"owes", "holds", "sum", "kind", "late", "purse", "to", "day", "mood"};
    private static final String[] NOISE = {";", "if", "or", "and", "not", "(", ")", "[", "]", "<", "=", "+", "-", "*",
        "/", "%", "1000", "1001", "0", "pays", "bars", "give", "to", "by", "times", "21", "sum", "purse", "latest", "#",
        "times 3", "not not", "X", "\u00e9", "\t", "007", "holder 9", "holder 10", "purse 5"};

    private final Check check = new Check();
    private Random random = new Random(0);
    private TallySticks x;
    private Oracle o;

    public static void main(String[] args) {
        RandomRunsTest test = new RandomRunsTest();
        for (int run = 0; run < RUNS && test.check.wrong() < 20; run++) {
            test.run(run);
        }
        test.check.finish("RandomRunsTest");
    }

    private void run(int seed) {
        random = new Random(seed);
        x = new TallySticks();
        o = new Oracle();
        int used = 0;
        int purses = random.nextInt(3) == 0 ? 10000 : random.nextBoolean() ? 200 : 1500;
        for (int p = 2 + random.nextInt(5); p > 0; p--) {
            int purse = random.nextInt(purses);
            due("person(" + purse + ")", x.person(purse), o.person(purse));
            used++;
        }
        used += begin();
        int sweepAt = 100;
        while (used < CALLS - 120) {
            int wrongBefore = check.wrong();
            used += step();
            if (used > sweepAt) {
                used += sweep();
                sweepAt += 200;
            }
            if (check.wrong() != wrongBefore) {
                System.out.println("  in run " + seed);
                return;
            }
        }
        for (int what = -1; what <= 16; what++) {
            due("count(" + what + ")", x.count(what), o.count(what));
        }
    }

    private void due(String call, int got, int want) {
        check.due(call, got, want);
    }

    /** Sticks and foils that are near to one another, kept as an image, so that back() finds some. */
    private int begin() {
        int sticks = below(11);
        int grains = random.nextBoolean() ? 64 : 4096;
        int days = 1 + below(6);
        for (int i = 0; i < sticks; i++) {
            int a = below(o.st.purses.size());
            int b = (a + 1 + below(o.st.purses.size() - 1)) % o.st.purses.size();
            int sum = random.nextBoolean() ? 10 + 10 * below(4) : 1 + below(300);
            int grain = below(grains);
            int k = below(4);
            int day = below(days);
            due("stick", x.stick(a, b, sum, grain, k, day), o.stick(a, b, sum, grain, k, day));
        }
        int foils = below(9);
        for (int i = 0; i < foils; i++) {
            int near = o.st.sticks.isEmpty() ? 0 : o.st.sticks.get(below(o.st.sticks.size())).grain;
            int grain = near ^ 1 << below(12) ^ 1 << below(6);
            int sum = 1 + below(400);
            due("foil", x.foil(grain, sum), o.foil(grain, sum));
        }
        due("image(0)", x.image(0), o.image(0));
        return sticks + foils + 1;
    }

    /** All that can be asked on paper. */
    private int sweep() {
        for (int i = 0; i <= 10; i++) {
            due("match(" + i + ")", x.match(i), o.match(i));
        }
        for (int i = 0; i <= 6; i++) {
            due("settle(" + i + ")", x.settle(i), o.settle(i));
            due("ring(" + i + ")", x.ring(i), o.ring(i));
            due("chain(" + i + ")", x.chain(i % 6, i / 2), o.chain(i % 6, i / 2));
        }
        List<Integer> row = o.callRow();
        due("calls(-1)", x.calls(NONE), row == null ? NONE : row.size());
        for (int i = 0; i < 8; i++) {
            due("calls(" + i + ")", x.calls(i), row == null || i >= row.size() ? NONE : row.get(i));
        }
        due("apart(1)", x.apart(1), o.apart(1));
        due("odd()", x.odd(), o.odd());
        return 42;
    }

    private int below(int n) {
        return random.nextInt(n);
    }

    /** Mostly one that is there, at times one that is not. */
    private int some(int size) {
        return below(12) == 0 ? below(14) - 2 : below(Math.max(1, size));
    }

    private int edge(int low, int high) {
        switch (below(14)) {
            case 0:
                return low;
            case 1:
                return high;
            case 2:
                return below(3) == 0 ? low - 1 : low;
            case 3:
                return below(3) == 0 ? high + 1 : high;
            default:
                return low + below(high - low + 1);
        }
    }

    private int person() {
        return some(o.st.purses.size());
    }

    private int stick() {
        return some(o.st.sticks.size());
    }

    private int foil() {
        return some(o.st.foils.size());
    }

    /** One or some calls; answers how many. */
    private int step() {
        int kind = below(100);
        if (kind < 8) return made();
        if (kind < 34) return deed();
        if (kind < 46) return text();
        if (kind < 48) return rowOfBytes();
        if (kind < 58) return kept();
        if (kind < 66) return small();
        return asked();
    }

    private int made() {
        switch (below(5)) {
            case 0: {
                int purse = edge(0, 9999);
                if (below(3) == 0) due("person(" + purse + ")", x.person(purse), o.person(purse));
                return 1;
            }
            case 1:
            case 2: {
                int a = person();
                int b = person();
                int sum = below(3) == 0 ? edge(1, 999) : 1 + below(9) * 10;
                int grain = below(3) == 0 ? edge(0, 4095) : below(32);
                int k = edge(0, 3);
                int due = below(3) == 0 ? edge(0, 999) : below(6);
                due("stick(" + a + "," + b + "," + sum + ")", x.stick(a, b, sum, grain, k, due), o.stick(a, b, sum, grain, k, due));
                return 1;
            }
            case 3: {
                int grain = below(3) == 0 ? edge(0, 4095) : below(32);
                int sum = edge(1, 999);
                due("foil(" + grain + "," + sum + ")", x.foil(grain, sum), o.foil(grain, sum));
                return 1;
            }
            default: {
                int what = below(9) == 0 ? below(7) - 2 : below(3);
                int value = below(4) == 0 ? edge(0, 999) : below(13);
                due("terms(" + what + "," + value + ")", x.terms(what, value), o.terms(what, value));
                return 1;
            }
        }
    }

    private int deed() {
        int s = stick();
        int p = person();
        switch (below(7)) {
            case 0:
            case 1:
                due("give(" + s + "," + p + ")", x.give(s, p), o.give(s, p));
                return 1;
            case 2:
                due("call(" + s + ")", x.call(s), o.call(s));
                return 1;
            case 3: {
                int by = below(3) == 0 ? edge(1, 998) : 1 + below(20);
                due("shave(" + s + "," + by + ")", x.shave(s, by), o.shave(s, by));
                return 1;
            }
            case 4:
                due("pass()", x.pass(), o.pass());
                return 1;
            default:
                due("undo()", x.undo(), o.undo());
                return 1;
        }
    }

    private int kept() {
        int k = below(8) == 0 ? below(5) - 2 : below(2);
        switch (below(4)) {
            case 0:
            case 1:
                due("image(" + k + ")", x.image(k), o.image(k));
                return 1;
            case 2:
                due("back(" + k + ")", x.back(k), o.back(k));
                return 1;
            default: {
                int n = edge(1, 60);
                int seed = edge(0, 1000000);
                due("years(" + seed + "," + n + ")", x.years(seed, n), o.years(seed, n));
                int j = some(6);
                int what = some(3);
                due("drawn(" + j + "," + what + ")", x.drawn(j, what), o.drawn(j, what));
                return 2;
            }
        }
    }

    private int small() {
        switch (below(8)) {
            case 0:
                due("fault()", x.fault(), o.fault());
                return 1;
            case 1:
                due("stopped()", x.stopped(), o.stopped());
                return 1;
            case 2:
                due("chips()", x.chips(), o.chips());
                return 1;
            case 3:
                due("status()", x.status(), o.status());
                return 1;
            case 4: {
                int law = below(3) == 0 ? below(9) - 2 : o.st.laws.size() - 1;
                due("force(" + law + ")", x.force(law), o.force(law));
                return 1;
            }
            case 5: {
                int n = below(410) - 4;
                due("end(" + n + ")", x.end(n), o.end(n));
                return 1;
            }
            case 6: {
                int n = random.nextInt();
                if (below(4) == 0) due("feed(" + n + ")", x.feed(n, 1, 2, n, 3), o.feed(n, 1, 2, n, 3));
                return 1;
            }
            default: {
                int what = below(18) - 1;
                due("count(" + what + ")", x.count(what), o.count(what));
                return 1;
            }
        }
    }

    private int asked() {
        int s = stick();
        int p = person();
        int what = some(9);
        switch (below(15)) {
            case 0:
                due("of(" + p + "," + what + ")", x.of(p, what), o.of(p, what));
                return 1;
            case 1:
            case 2:
                due("at(" + s + "," + what + ")", x.at(s, what), o.at(s, what));
                return 1;
            case 3:
                due("asks(" + s + "," + p + ")", x.asks(s, p), o.asks(s, p));
                return 1;
            case 4: {
                int f = foil();
                due("fit(" + s + "," + f + "," + what % 3 + ")", x.fit(s, f, what % 3), o.fit(s, f, what % 3));
                due("half(" + f + "," + what % 3 + ")", x.half(f, what % 3), o.half(f, what % 3));
                return 2;
            }
            case 5:
            case 6:
                what = below(13) - 1;
                due("match(" + what + ")", x.match(what), o.match(what));
                return 1;
            case 7:
                due("odd()", x.odd(), o.odd());
                return 1;
            case 8:
                what = below(4) - 1;
                due("apart(" + what + ")", x.apart(what), o.apart(what));
                return 1;
            case 9: {
                int f = edge(0, 27);
                due("told(" + s + "," + f + "," + what % 3 + ")", x.told(s, f, what % 3), o.told(s, f, what % 3));
                return 1;
            }
            case 10:
                what = below(9) - 1;
                due("settle(" + what + ")", x.settle(what), o.settle(what));
                return 1;
            case 11:
                what = below(9) - 1;
                due("ring(" + what + ")", x.ring(what), o.ring(what));
                return 1;
            case 12: {
                int q = person();
                due("chain(" + p + "," + q + ")", x.chain(p, q), o.chain(p, q));
                return 1;
            }
            default:
                what = below(10) - 2;
                if (below(4) == 0) due("calls(" + what + ")", x.calls(what), o.calls(what));
                return 1;
        }
    }

    private int rowOfBytes() {
        int n = below(40);
        StringBuilder bytes = new StringBuilder();
        for (int i = 0; i < n; i++) {
            bytes.append((char) (i % 3 == 1 ? below(17) : below(256)));
        }
        int used = putBoth(bytes.toString());
        if (o.st.foils.size() < 10 || below(5) == 0) {
            due("row()", x.row(), o.row());
            due("chips()", x.chips(), o.chips());
        }
        return used + 2;
    }

    private int putBoth(String text) {
        due("end(0)", x.end(0), o.end(0));
        byte[] bytes = Check.bytesOf(text);
        int used = 2;
        for (int i = 0; 20 * i < bytes.length; i++) {
            int[] n = Check.fives(bytes, i);
            due("feed", x.feed(n[0], n[1], n[2], n[3], n[4]), o.feed(n));
            used++;
        }
        due("end(" + bytes.length + ")", x.end(bytes.length), o.end(bytes.length));
        return used;
    }

    private int text() {
        boolean law = below(3) != 0;
        String text = makeText(law);
        if (below(4) == 0) text = spoil(text);
        if (text.length() > 400) text = text.substring(0, 400);
        int used = putBoth(text);
        if (law) {
            due("law() of " + text, x.law(), o.law());
            if (o.status == 0 && below(4) != 0) {
                int number = o.st.laws.size() - 1;
                due("force(" + number + ")", x.force(number), o.force(number));
            }
        } else {
            due("orders() of " + text, x.orders(), o.orders());
            due("stopped() of " + text, x.stopped(), o.stopped());
        }
        due("fault() of " + text, x.fault(), o.fault());
        return used + 3;
    }

    private String spoil(String text) {
        StringBuilder all = new StringBuilder(text);
        for (int i = below(3); i >= 0; i--) {
            int at = below(all.length() + 1);
            if (below(3) == 0 && at < all.length()) {
                all.delete(at, Math.min(all.length(), at + 1 + below(4)));
            } else {
                all.insert(at, " " + NOISE[below(NOISE.length)] + " ");
            }
        }
        return all.toString();
    }

    private String makeText(boolean law) {
        if (below(60) == 0) return " ".repeat(below(5));
        int n = below(10) == 0 ? 11 + below(3) : 1 + below(4);
        StringBuilder all = new StringBuilder(below(6) == 0 ? " " : "");
        for (int i = 0; i < n; i++) {
            if (i > 0) all.append(below(2) == 0 ? ";" : " ; ");
            all.append(law ? lawClause(n > 5) : order(n > 5));
        }
        return all.toString();
    }

    private String lawClause(boolean brief) {
        if (brief) return "pays " + below(20);
        String head = below(3) == 0 ? "bars" : (below(2) == 0 ? "pays " : "wears ") + sum(true, 3);
        return head + (below(2) == 0 ? " if " + test(true, 3) : "");
    }

    private String order(boolean brief) {
        if (brief) return below(2) == 0 ? "pass" : "pass times 2";
        String head;
        switch (below(4)) {
            case 0:
                head = "give " + stickSum() + " to " + below(4);
                break;
            case 1:
                head = "call " + stickSum();
                break;
            case 2:
                head = "shave " + stickSum() + " by " + (below(2) == 0 ? "" + (1 + below(9)) : sum(false, 2));
                break;
            default:
                head = "pass";
                break;
        }
        if (below(3) == 0) head += " times " + (1 + below(below(5) == 0 ? 20 : 4));
        return head + (below(2) == 0 ? " if " + test(false, 3) : "");
    }

    private String stickSum() {
        return below(3) == 0 ? "done" : below(5) == 0 ? "latest % 10" : "" + below(Math.max(1, o.st.sticks.size()));
    }

    private String test(boolean law, int deep) {
        switch (deep == 0 ? 0 : below(7)) {
            case 0:
            case 1:
            case 2:
                return sum(law, deep - 1) + " <>=".charAt(1 + below(3)) + sum(law, deep - 1);
            case 3:
                return test(law, deep - 1) + " or " + test(law, deep - 1);
            case 4:
                return test(law, deep - 1) + " and " + test(law, deep - 1);
            case 5:
                return "not " + test(law, deep - 1);
            default:
                return "(" + test(law, deep - 1) + ")";
        }
    }

    private String sum(boolean law, int deep) {
        switch (deep <= 0 ? below(2) : below(6)) {
            case 0:
                return "" + (below(5) == 0 ? below(1001) : below(12));
            case 1:
                return word(law);
            case 2:
                return "[" + sum(law, deep - 1) + "]";
            case 3:
                return sum(law, deep - 1) + "*/%".charAt(below(3)) + sum(law, deep - 1);
            default:
                return sum(law, deep - 1) + " " + "+-".charAt(below(2)) + sum(law, deep - 1);
        }
    }

    private String word(boolean law) {
        if (law) return LAW_WORDS[below(LAW_WORDS.length)];
        switch (below(6)) {
            case 0:
                return "day";
            case 1:
                return "done";
            case 2:
                return "latest";
            case 3:
                return "purse " + below(6);
            case 4:
                return "holder " + below(10);
            default:
                return "sum " + below(10);
        }
    }
}
