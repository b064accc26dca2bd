import java.util.ArrayDeque;
import java.util.ArrayList;
import java.util.Arrays;
import java.util.HashMap;
import java.util.List;
import java.util.Map;

/**
 * The document once more, written in another way than the program (trees of lambdas, a state machine for
 * FAULT, snapshots for undo, plain trying of everything), to compare random runs with.
 */
final class Oracle {
    static final int NONE = -1;

    static final class Stick implements Cloneable {
        int owes, holds, sum, grain, kind, due;
        boolean paid;

        Stick copy() {
            try {
                return (Stick) clone();
            } catch (CloneNotSupportedException e) {
                throw new IllegalStateException(e);
            }
        }
    }

    static final class State {
        List<Integer> purses = new ArrayList<>();
        List<Stick> sticks = new ArrayList<>();
        List<int[]> foils = new ArrayList<>();
        int[] terms = {0, 2, 0};
        List<List<Clause>> laws = new ArrayList<>();
        int force = NONE;

        State copy() {
            State c = new State();
            c.purses.addAll(purses);
            for (Stick s : sticks) {
                c.sticks.add(s.copy());
            }
            c.foils.addAll(foils);
            c.terms = terms.clone();
            c.laws.addAll(laws);
            c.force = force;
            return c;
        }
    }

    static final class Snapshot {
        int deed;
        State state;
    }

    static final class Broken extends Exception {
        private static final long serialVersionUID = 1;
    }

    interface Num {
        long of(Env env) throws Broken;
    }

    interface Bool {
        boolean of(Env env) throws Broken;
    }

    static final class Env {
        State state;
        Stick stick;
        int to = NONE;
        int done;
        int latest = NONE;
    }

    static final class Clause {
        String verb;
        List<Num> sums = new ArrayList<>();
        int times = 1;
        Bool test;
    }

    State st = new State();
    State[] images = new State[2];
    State years;
    ArrayDeque<Snapshot> undos = new ArrayDeque<>();
    List<Integer> tape = new ArrayList<>();
    int fault = NONE, stopped = NONE, chips = 0, status = 0;
    Map<Integer, Integer> refused = new HashMap<>();

    private int no(int why) {
        status = why;
        refused.merge(why, 1, Integer::sum);
        return why;
    }

    private int yes(int told) {
        status = 0;
        return told;
    }

    private static boolean in(int v, int low, int high) {
        return v >= low && v <= high;
    }

    private boolean isPerson(int p) {
        return in(p, 0, st.purses.size() - 1);
    }

    private boolean isStick(int s) {
        return in(s, 0, st.sticks.size() - 1);
    }

    private boolean isFoil(int f) {
        return in(f, 0, st.foils.size() - 1);
    }

    int person(int purse) {
        if (!in(purse, 0, 9999)) return no(-1);
        if (st.purses.size() == 6) return no(-5);
        st.purses.add(purse);
        undos.clear();
        return yes(st.purses.size() - 1);
    }

    private int net(int person) {
        int net = 0;
        for (Stick s : st.sticks) {
            if (!s.paid && s.holds == person) net += s.sum;
            if (!s.paid && s.owes == person) net -= s.sum;
        }
        return net;
    }

    int of(int person, int what) {
        if (!isPerson(person) || !in(what, 0, 3)) return -1000000;
        if (what == 0) return st.purses.get(person);
        if (what == 1) return net(person);
        return (int) st.sticks.stream().filter(s -> !s.paid && (what == 2 ? s.holds : s.owes) == person).count();
    }

    int stick(int owes, int holds, int sum, int grain, int kind, int due) {
        boolean fine = owes != holds && in(sum, 1, 999) && in(grain, 0, 4095) && in(kind, 0, 3) && in(due, 0, 999);
        if (!fine) return no(-1);
        if (!isPerson(owes) || !isPerson(holds)) return no(-2);
        if (st.sticks.size() == 10) return no(-5);
        Stick s = new Stick();
        s.owes = owes;
        s.holds = holds;
        s.sum = sum;
        s.grain = grain;
        s.kind = kind;
        s.due = due;
        st.sticks.add(s);
        undos.clear();
        return yes(st.sticks.size() - 1);
    }

    int at(int stick, int what) {
        if (!isStick(stick)) return NONE;
        Stick s = st.sticks.get(stick);
        int[] all = {s.owes, s.holds, s.sum, s.grain, s.kind, s.due, s.paid ? 1 : 0, pays(st, s), worn(st, s)};
        return in(what, 0, 8) ? all[what] : NONE;
    }

    int foil(int grain, int sum) {
        if (!in(grain, 0, 4095) || !in(sum, 1, 999)) return no(-1);
        if (st.foils.size() == 10) return no(-5);
        st.foils.add(new int[] {grain, sum});
        return yes(st.foils.size() - 1);
    }

    int half(int foil, int what) {
        return isFoil(foil) && in(what, 0, 1) ? st.foils.get(foil)[what] : NONE;
    }

    int terms(int what, int value) {
        if (!in(what, 0, 2) || !in(value, 0, new int[] {999, 12, 9}[what])) return no(-1);
        int was = st.terms[what];
        st.terms[what] = value;
        undos.clear();
        return yes(was);
    }

    int feed(int... five) {
        if (tape.size() > 380) return NONE;
        for (int n : five) {
            for (int shift = 24; shift >= 0; shift -= 8) tape.add(n >> shift & 255);
        }
        return tape.size();
    }

    int end(int n) {
        if (n < 0 || n > tape.size()) return NONE;
        tape = new ArrayList<>(tape.subList(0, n));
        return n;
    }

    int row() {
        if (tape.isEmpty()) return no(-6);
        int came = 0;
        int chipped = 0;
        List<Integer> rest = tape;
        tape = new ArrayList<>();
        while (!rest.isEmpty()) {
            List<Integer> three = rest.subList(0, Math.min(3, rest.size()));
            boolean fine = three.size() == 3 && three.get(1) <= 15 && three.get(2) >= 1 && st.foils.size() < 10;
            if (fine) {
                st.foils.add(new int[] {16 * three.get(0) + three.get(1), three.get(2)});
                came++;
            } else {
                chipped++;
            }
            rest = rest.subList(three.size(), rest.size());
        }
        chips = chipped;
        return yes(came);
    }

    int law() {
        List<Integer> text = tape;
        tape = new ArrayList<>();
        if (st.laws.size() == 6) return no(-5);
        Text t = new Text(text, true);
        fault = t.fault();
        if (fault != NONE) return no(-6);
        st.laws.add(t.clauses());
        return yes(st.laws.size() - 1);
    }

    int orders() {
        List<Integer> text = tape;
        tape = new ArrayList<>();
        stopped = NONE;
        Text t = new Text(text, false);
        fault = t.fault();
        if (fault != NONE) return no(-6);
        State was = st.copy();
        ArrayDeque<Snapshot> undosWere = new ArrayDeque<>(undos);
        Env env = new Env();
        env.state = st;
        List<Clause> clauses = t.clauses();
        for (int c = 0; c < clauses.size(); c++) {
            Clause clause = clauses.get(c);
            for (int i = 0; i < clause.times; i++) {
                if (!asked(clause, env)) continue;
                int told;
                try {
                    int[] v = new int[2];
                    for (int k = 0; k < clause.sums.size(); k++) v[k] = (int) clause.sums.get(k).of(env);
                    told = deed(clause.verb, v[0], v[1]);
                } catch (Broken broken) {
                    told = -3;
                }
                if (told < 0) {
                    st = was;
                    undos = undosWere;
                    stopped = c;
                    return no(-3);
                }
                env.done++;
                if (clause.verb.equals("call")) env.latest = told;
            }
        }
        return yes(env.done);
    }

    private static boolean asked(Clause c, Env env) {
        try {
            return c.test == null || c.test.of(env);
        } catch (Broken broken) {
            return false;
        }
    }

    private static int byLaw(State state, Stick s, String verb, int without, int most) {
        int told = without;
        if (state.force != NONE) {
            Env env = new Env();
            env.state = state;
            env.stick = s;
            for (Clause c : state.laws.get(state.force)) {
                if (c.verb.equals(verb) && asked(c, env)) {
                    try {
                        told = (int) Math.max(0, Math.min(most, c.sums.get(0).of(env)));
                    } catch (Broken broken) {
                        continue;
                    }
                }
            }
        }
        return told;
    }

    private static int pays(State state, Stick s) {
        return byLaw(state, s, "pays", s.sum, 9999);
    }

    private static int worn(State state, Stick s) {
        return byLaw(state, s, "wears", state.terms[1], 12);
    }

    private static boolean barred(State state, Stick s, int to) {
        if (state.force == NONE) return false;
        Env env = new Env();
        env.state = state;
        env.stick = s;
        env.to = to;
        return state.laws.get(state.force).stream().anyMatch(c -> c.verb.equals("bars") && asked(c, env));
    }

    int fault() {
        return fault;
    }

    int stopped() {
        return stopped;
    }

    int chips() {
        return chips;
    }

    int status() {
        return status;
    }

    int force(int law) {
        if (!in(law, -1, st.laws.size() - 1)) return no(-2);
        int was = st.force;
        st.force = law;
        return yes(was);
    }

    int asks(int stick, int to) {
        if (!isStick(stick) || !isPerson(to)) return NONE;
        return barred(st, st.sticks.get(stick), to) ? 1 : 0;
    }

    /** A deed in the state that stands; what it tells, or below 0. */
    private int deed(String verb, int a, int b) {
        Snapshot snap = new Snapshot();
        snap.deed = Arrays.asList("give", "call", "shave", "pass").indexOf(verb);
        snap.state = st.copy();
        int told = deedIn(st, verb, a, b);
        if (told >= 0) {
            undos.addLast(snap);
            if (undos.size() > 16) undos.removeFirst();
        }
        return told;
    }

    private static int deedIn(State state, String verb, int a, int b) {
        if (verb.equals("pass")) return state.terms[0] == 999 ? -3 : ++state.terms[0];
        if (verb.equals("shave") && !in(b, 1, 998)) return -1;
        if (!in(a, 0, state.sticks.size() - 1)) return -2;
        if (verb.equals("give") && !in(b, 0, state.purses.size() - 1)) return -2;
        Stick s = state.sticks.get(a);
        if (s.paid) return -3;
        if (verb.equals("give")) {
            if (s.holds == b || barred(state, s, b)) return -3;
            int was = s.holds;
            if (s.owes == b) s.paid = true;
            else s.holds = b;
            return was;
        }
        int amount = verb.equals("call") ? pays(state, s) : b;
        if (verb.equals("call") ? s.due > state.terms[0] : b >= s.sum) return -3;
        if (state.purses.get(s.owes) < amount) return -3;
        state.purses.set(s.owes, state.purses.get(s.owes) - amount);
        state.purses.set(s.holds, Math.min(9999, state.purses.get(s.holds) + amount));
        if (verb.equals("call")) {
            s.paid = true;
            return amount;
        }
        s.sum -= b;
        return s.sum;
    }

    private int told(int answer) {
        return answer < 0 ? no(answer) : yes(answer);
    }

    int give(int stick, int to) {
        return told(deed("give", stick, to));
    }

    int call(int stick) {
        return told(deed("call", stick, 0));
    }

    int shave(int stick, int by) {
        return told(deed("shave", stick, by));
    }

    int pass() {
        return told(deed("pass", 0, 0));
    }

    int undo() {
        if (undos.isEmpty()) return no(-3);
        Snapshot snap = undos.removeLast();
        st.purses = new ArrayList<>(snap.state.purses);
        st.sticks = snap.state.copy().sticks;
        st.terms[0] = snap.state.terms[0];
        return yes(snap.deed);
    }

    private boolean fits(Stick s, int[] foil) {
        return Integer.bitCount(s.grain ^ foil[0]) <= worn(st, s) && s.sum <= foil[1];
    }

    int fit(int stick, int foil, int what) {
        if (!isStick(stick) || !isFoil(foil) || !in(what, 0, 1)) return NONE;
        Stick s = st.sticks.get(stick);
        int[] f = st.foils.get(foil);
        return what == 0 ? Integer.bitCount(s.grain ^ f[0]) : fits(s, f) ? 1 : 0;
    }

    /** The most that can be matched from stick s on, when the foils in used are gone. */
    private int most(int s, int used, boolean[][] fit, Map<Integer, Integer> known) {
        if (s == fit.length) return 0;
        Integer was = known.get(s * 1024 + used);
        if (was != null) return was;
        int best = most(s + 1, used, fit, known);
        for (int f = 0; f < fit[s].length; f++) {
            if (fit[s][f] && (used >> f & 1) == 0) best = Math.max(best, 1 + most(s + 1, used | 1 << f, fit, known));
        }
        known.put(s * 1024 + used, best);
        return best;
    }

    int match(int what) {
        int n = st.sticks.size();
        if (!in(what, 0, n)) return NONE;
        boolean[][] fit = new boolean[n][st.foils.size()];
        for (int s = 0; s < n; s++) {
            for (int f = 0; f < fit[s].length; f++) fit[s][f] = fits(st.sticks.get(s), st.foils.get(f));
        }
        Map<Integer, Integer> known = new HashMap<>();
        if (what == 0) return most(0, 0, fit, known);
        int used = 0;
        int choice = 100;
        for (int s = 0; s < what; s++) {
            choice = 100;
            int best = most(s, used, fit, known);
            for (int f = fit[s].length - 1; f >= 0; f--) {
                boolean free = fit[s][f] && (used >> f & 1) == 0;
                if (free && 1 + most(s + 1, used | 1 << f, fit, known) == best) choice = f;
            }
            if (choice != 100) used |= 1 << choice;
        }
        return choice;
    }

    int odd() {
        int bits = 0;
        for (int f = 0; f < st.foils.size(); f++) {
            int[] foil = st.foils.get(f);
            if (st.sticks.stream().noneMatch(s -> fits(s, foil))) bits |= 1 << f;
        }
        return bits;
    }

    int apart(int what) {
        if (!in(what, 0, 1)) return NONE;
        for (int size = 0; size <= 12; size++) {
            for (int mask = 0; mask < 4096; mask++) {
                int m = mask;
                if (Integer.bitCount(mask) == size
                        && st.sticks.stream().mapToInt(s -> s.grain & m).distinct().count() == st.sticks.size()) {
                    return what == 0 ? size : mask;
                }
            }
        }
        return NONE;
    }

    int told(int stick, int f, int what) {
        if (!isStick(stick) || !in(f, 0, 27) || !in(what, 0, 1)) return NONE;
        int sum = st.sticks.get(stick).sum;
        int found = 0;
        int greatest = 0;
        for (int h = sum / 100; h <= 9; h++) {
            for (int t = sum / 10 % 10; t <= 9; t++) {
                for (int o = sum % 10; o <= 9; o++) {
                    if (h + t + o - sum / 100 - sum / 10 % 10 - sum % 10 <= f) {
                        found++;
                        greatest = Math.max(greatest, 100 * h + 10 * t + o);
                    }
                }
            }
        }
        return what == 0 ? found : greatest;
    }

    int settle(int what) {
        int n = st.purses.size();
        if (!in(what, 0, n)) return NONE;
        List<Integer> who = new ArrayList<>();
        for (int p = 0; p < n; p++) if (net(p) != 0) who.add(p);
        int k = who.size();
        int most = 0;
        int[] best = new int[k];
        for (int code = 0; code < Math.pow(k, k); code++) {
            int[] group = new int[k];
            int rest = code;
            for (int i = k - 1; i >= 0; i--) {
                group[i] = rest % k;
                rest /= k;
            }
            int used = 0;
            boolean numbered = true;
            int[] sums = new int[k];
            for (int i = 0; i < k; i++) {
                numbered &= group[i] <= used;
                used = Math.max(used, group[i] + 1);
                sums[group[i]] += net(who.get(i));
            }
            if (numbered && used > most && Arrays.stream(sums).allMatch(v -> v == 0)) {
                most = used;
                best = group;
            }
        }
        if (what == 0) return k - most;
        return who.contains(what - 1) ? best[who.indexOf(what - 1)] : 100;
    }

    private void rings(List<Integer> row, List<List<Integer>> found) {
        int first = st.sticks.get(row.get(0)).owes;
        int holder = st.sticks.get(row.get(row.size() - 1)).holds;
        if (holder == first) {
            found.add(new ArrayList<>(row));
            return;
        }
        for (int r : row) if (st.sticks.get(r).owes == holder) return;
        for (int s = 0; s < st.sticks.size(); s++) {
            if (!st.sticks.get(s).paid && st.sticks.get(s).owes == holder) {
                row.add(s);
                rings(row, found);
                row.remove(row.size() - 1);
            }
        }
    }

    int ring(int what) {
        List<List<Integer>> found = new ArrayList<>();
        for (int s = 0; s < st.sticks.size(); s++) {
            if (!st.sticks.get(s).paid) rings(new ArrayList<>(List.of(s)), found);
        }
        found.removeIf(row -> row.stream().anyMatch(s -> s < row.get(0)));
        found.sort((a, b) -> a.size() != b.size() ? a.size() - b.size()
                : Arrays.compare(a.stream().mapToInt(v -> v).toArray(), b.stream().mapToInt(v -> v).toArray()));
        if (found.isEmpty()) return NONE;
        List<Integer> row = found.get(0);
        if (what == 0) return row.size();
        return in(what, 1, row.size()) ? row.get(what - 1) : NONE;
    }

    int chain(int from, int to) {
        if (!isPerson(from) || !isPerson(to) || from == to) return NONE;
        int far = 1000;
        int[][] way = new int[6][6];
        for (int[] w : way) Arrays.fill(w, far);
        for (Stick s : st.sticks) if (!s.paid) way[s.owes][s.holds] = 1;
        for (int k = 0; k < 6; k++) {
            for (int i = 0; i < 6; i++) {
                for (int j = 0; j < 6; j++) way[i][j] = Math.min(way[i][j], way[i][k] + way[k][j]);
            }
        }
        return way[from][to] >= far ? NONE : way[from][to];
    }

    private List<Integer> longest(State state, List<Integer> left) {
        List<Integer> best = new ArrayList<>();
        for (int s : left) {
            State paper = state.copy();
            if (deedIn(paper, "call", s, 0) < 0) continue;
            List<Integer> rest = new ArrayList<>(left);
            rest.remove(Integer.valueOf(s));
            List<Integer> row = longest(paper, rest);
            if (row.size() + 1 > best.size()) {
                row.add(0, s);
                best = row;
            }
        }
        return best;
    }

    /** CALLED IN; null if too many STICKS are such. */
    List<Integer> callRow() {
        List<Integer> such = new ArrayList<>();
        for (int s = 0; s < st.sticks.size(); s++) {
            if (!st.sticks.get(s).paid && st.sticks.get(s).due <= st.terms[0]) such.add(s);
        }
        return such.size() > 7 ? null : longest(st, such);
    }

    int calls(int i) {
        List<Integer> row = callRow();
        if (row == null || i < -1) return NONE;
        if (i == NONE) return row.size();
        return i < row.size() ? row.get(i) : NONE;
    }

    int years(int seed, int n) {
        if (!in(seed, 0, 1000000) || !in(n, 1, 60)) return no(-1);
        if (st.sticks.isEmpty()) return no(-3);
        State paper = st.copy();
        long s = seed;
        int called = 0;
        for (int day = 0; day < n; day++) {
            if (paper.terms[0] == 999) break;
            s = (s * 1103 + 12345) % 1000003;
            int stick = (int) (s % paper.sticks.size());
            s = (s * 1103 + 12345) % 1000003;
            int person = (int) (s % paper.purses.size());
            if (deedIn(paper, "call", stick, 0) >= 0) called++;
            else deedIn(paper, "give", stick, person);
            deedIn(paper, "pass", 0, 0);
        }
        years = paper;
        return yes(called);
    }

    int drawn(int k, int what) {
        if (years == null || k < 0) return NONE;
        if (what == 0) return k < years.purses.size() ? years.purses.get(k) : NONE;
        if (k >= years.sticks.size()) return NONE;
        return what == 1 ? years.sticks.get(k).holds : what == 2 ? years.sticks.get(k).paid ? 1 : 0 : NONE;
    }

    int image(int k) {
        if (!in(k, 0, 1)) return no(-1);
        images[k] = st.copy();
        return yes(0);
    }

    int back(int k) {
        if (!in(k, 0, 1)) return no(-1);
        if (images[k] == null) return no(-2);
        st = images[k].copy();
        undos.clear();
        return yes(0);
    }

    int count(int what) {
        if (!in(what, 0, 15)) return NONE;
        return new int[] {st.purses.size(), st.sticks.size(), st.foils.size(),
            (int) st.sticks.stream().filter(s -> s.paid).count(), st.laws.size(), undos.size(), tape.size(),
            refused.getOrDefault(-1, 0), refused.getOrDefault(-2, 0), refused.getOrDefault(-3, 0),
            refused.getOrDefault(-5, 0), refused.getOrDefault(-6, 0), st.force,
            st.terms[0], st.terms[1], st.terms[2]}[what];
    }

    /** A TEXT: FAULT by a state machine over its TOKENS, then trees by descent (of texts without FAULT alone). */
    static final class Text {
        final List<String> tokens = new ArrayList<>();
        final List<Integer> places = new ArrayList<>();
        final boolean law;
        int next = 0;

        Text(List<Integer> bytes, boolean law) {
            this.law = law;
            StringBuilder all = new StringBuilder();
            for (int b : bytes) all.append((char) b);
            java.util.regex.Matcher m = java.util.regex.Pattern.compile("[a-z]+|[0-9]+|[^ ]", java.util.regex.Pattern.DOTALL).matcher(all);
            while (m.find()) {
                tokens.add(m.group());
                places.add(m.start());
            }
            tokens.add("");
            places.add(bytes.size());
        }

        private static boolean number(String token, int low, int high) {
            if (token.isEmpty() || !token.chars().allMatch(c -> c >= '0' && c <= '9')) return false;
            java.math.BigInteger v = new java.math.BigInteger(token);
            return v.compareTo(java.math.BigInteger.valueOf(low)) >= 0 && v.compareTo(java.math.BigInteger.valueOf(high)) <= 0;
        }

        private static final List<String> LAW_WORDS = List.of("owes", "holds", "sum", "kind", "late", "purse", "to", "day", "mood");
        private static final List<String> ORDER_WORDS = List.of("day", "done", "latest", "purse", "holder", "sum");

        /** The place of the first TOKEN for which the machine has no way on; NONE if it takes the end. */
        int fault() {
            String state = "clause";
            String open = "";
            String sums = "";
            int clauses = 0;
            int parts = 0;
            for (int i = 0; i < tokens.size(); i++) {
                String t = tokens.get(i);
                String to = null;
                char top = open.isEmpty() ? '-' : open.charAt(open.length() - 1);
                if (state.equals("clause")) {
                    if (clauses == 12) return places.get(i);
                    clauses++;
                    sums = switch (t) {
                        case "pays", "wears" -> law ? "1" : null;
                        case "bars" -> law ? "" : null;
                        case "give" -> law ? null : "to";
                        case "call" -> law ? null : "1";
                        case "shave" -> law ? null : "by";
                        case "pass" -> law ? null : "";
                        default -> null;
                    };
                    to = sums == null ? null : sums.isEmpty() ? "head" : "operand";
                } else if (state.equals("operand") || state.equals("plain")) {
                    if (state.equals("plain")) sums = "left";
                    if (state.equals("plain") && t.equals("not")) {
                        to = "plain";
                    } else if (state.equals("plain") && t.equals("(") && open.length() < 8) {
                        open += "(";
                        to = "plain";
                    } else if (t.equals("[") && open.length() < 8) {
                        open += "[";
                        to = "operand";
                    } else if (parts < 50 && number(t, 0, 1000)) {
                        parts++;
                        to = "value";
                    } else if (parts < 50 && (law ? LAW_WORDS : ORDER_WORDS).contains(t)) {
                        parts++;
                        to = law || t.equals("day") || t.equals("done") || t.equals("latest") ? "value"
                                : t.equals("purse") ? "person" : "stick";
                    }
                } else if (state.equals("person") || state.equals("stick")) {
                    to = number(t, 0, state.equals("person") ? 5 : 9) ? "value" : null;
                } else if (state.equals("times")) {
                    to = number(t, 1, 20) ? "timed" : null;
                } else if (state.equals("value") && t.length() == 1 && "+-*/%".contains(t)) {
                    to = "operand";
                } else if (state.equals("value") && top == '[') {
                    if (t.equals("]")) {
                        open = open.substring(0, open.length() - 1);
                        to = "value";
                    }
                } else if (state.equals("value") && sums.equals("left")) {
                    if (t.equals("<") || t.equals(">") || t.equals("=")) {
                        sums = "right";
                        to = "operand";
                    }
                } else if (state.equals("tested") || state.equals("value") && sums.equals("right")) {
                    if (t.equals("and") || t.equals("or")) {
                        to = "plain";
                    } else if (t.equals(")") && top == '(') {
                        open = open.substring(0, open.length() - 1);
                        to = "tested";
                    } else if (open.isEmpty() && t.isEmpty()) {
                        return NONE;
                    } else if (open.isEmpty() && t.equals(";")) {
                        to = "clause";
                    }
                } else if (state.equals("value") && (sums.equals("to") || sums.equals("by"))) {
                    if (t.equals(sums)) {
                        sums = "1";
                        to = "operand";
                    }
                } else {
                    boolean timed = state.equals("timed");
                    if (t.isEmpty()) return NONE;
                    to = t.equals(";") ? "clause" : t.equals("if") ? "plain" : t.equals("times") && !law && !timed ? "times" : null;
                }
                if (to == null) return places.get(i);
                state = to;
            }
            throw new IllegalStateException();
        }

        private boolean take(String token) {
            if (!tokens.get(next).equals(token)) return false;
            next++;
            return true;
        }

        List<Clause> clauses() {
            List<Clause> all = new ArrayList<>();
            do {
                Clause c = new Clause();
                c.verb = tokens.get(next++);
                if (!c.verb.equals("bars") && !c.verb.equals("pass")) c.sums.add(sum());
                if (!law && (take("to") || take("by"))) c.sums.add(sum());
                if (take("times")) c.times = Integer.parseInt(tokens.get(next++));
                if (take("if")) c.test = test();
                all.add(c);
            } while (take(";"));
            return all;
        }

        private Bool test() {
            Bool left = both();
            if (!take("or")) return left;
            Bool right = test();
            return env -> left.of(env) || right.of(env);
        }

        private Bool both() {
            Bool left = plain();
            if (!take("and")) return left;
            Bool right = both();
            return env -> left.of(env) && right.of(env);
        }

        private Bool plain() {
            if (take("not")) {
                Bool inner = plain();
                return env -> !inner.of(env);
            }
            if (take("(")) {
                Bool inner = test();
                take(")");
                return inner;
            }
            Num left = sum();
            String sign = tokens.get(next++);
            Num right = sum();
            return env -> {
                int c = Long.compare(left.of(env), right.of(env));
                return sign.equals("<") ? c < 0 : sign.equals(">") ? c > 0 : c == 0;
            };
        }

        private static long sound(long v) throws Broken {
            if (Math.abs(v) > 1000000000L) throw new Broken();
            return v;
        }

        private Num sum() {
            Num all = term();
            while (tokens.get(next).equals("+") || tokens.get(next).equals("-")) {
                boolean plus = tokens.get(next++).equals("+");
                Num left = all;
                Num right = term();
                all = env -> {
                    long a = left.of(env);
                    long b = right.of(env);
                    return sound(plus ? a + b : a - b);
                };
            }
            return all;
        }

        private Num term() {
            Num all = part();
            while (List.of("*", "/", "%").contains(tokens.get(next))) {
                String sign = tokens.get(next++);
                Num left = all;
                Num right = part();
                all = env -> {
                    long a = left.of(env);
                    long b = right.of(env);
                    if (sign.equals("*")) return sound(a * b);
                    if (b == 0) throw new Broken();
                    return sound(sign.equals("/") ? a / b : a % b);
                };
            }
            return all;
        }

        private Num part() {
            String token = tokens.get(next++);
            if (token.equals("[")) {
                Num inner = sum();
                take("]");
                return inner;
            }
            if (token.charAt(0) <= '9') {
                long v = new java.math.BigInteger(token).longValue();
                return env -> v;
            }
            if (token.equals("day")) return env -> env.state.terms[0];
            if (!law) {
                if (token.equals("done")) return env -> env.done;
                if (token.equals("latest")) return env -> env.latest;
                int k = new java.math.BigInteger(tokens.get(next++)).intValue();
                if (token.equals("purse")) return env -> k < env.state.purses.size() ? env.state.purses.get(k) : -1;
                boolean holder = token.equals("holder");
                return env -> k >= env.state.sticks.size() ? -1
                        : holder ? env.state.sticks.get(k).holds : env.state.sticks.get(k).sum;
            }
            return switch (token) {
                case "owes" -> env -> env.stick.owes;
                case "holds" -> env -> env.stick.holds;
                case "sum" -> env -> env.stick.sum;
                case "kind" -> env -> env.stick.kind;
                case "late" -> env -> env.state.terms[0] - env.stick.due;
                case "purse" -> env -> env.state.purses.get(env.stick.owes);
                case "to" -> env -> env.to;
                default -> env -> env.state.terms[2];
            };
        }
    }
}
