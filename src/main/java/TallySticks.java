/** Debts on split sticks; ../shared/DOC.md says what each call promises. */
public final class TallySticks {
    public static final int NONE = -1;
    public static final int NOTHING = -1000000;

    private static final int BAD_NUMBER = -1;
    private static final int NOT_THERE = -2;
    private static final int CANNOT_BE = -3;
    private static final int NO_ROOM = -5;
    private static final int BAD_TEXT = -6;

    private static final int MOST_PEOPLE = 6;
    private static final int MOST_STICKS = 10;
    private static final int MOST_FOILS = 10;
    private static final int MOST_LAWS = 6;
    private static final int MOST_IMAGES = 2;
    private static final int MOST_BYTES = 400;
    private static final int FED_BYTES = 20;

    private static final int FULL_PURSE = 9999;
    private static final int FULL_SUM = 999;
    private static final int FULL_GRAIN = 4095;
    private static final int FIBRES = 12;
    private static final int LAST_KIND = 3;
    private static final int LAST_DAY = 999;
    private static final int LAST_MOOD = 9;
    private static final int MOST_NOTCHES = 27;
    private static final int MOST_CALLABLE = 7;
    private static final int UNPLACED = 100;

    private static final int DAY = 0;
    private static final int DAMP = 1;
    private static final int MOOD = 2;
    private static final int TERM_COUNT = 3;

    /* The deeds bear the numbers that undo() answers with; ORDERS and LAWS share one row of CLAUSE kinds. */
    private static final int GIVE = 0;
    private static final int CALL = 1;
    private static final int SHAVE = 2;
    private static final int PASS = 3;
    private static final int PAYS = 4;
    private static final int WEARS = 5;
    private static final int BARS = 6;

    private static final int LAST_SEED = 1000000;
    private static final int MOST_DAYS = 60;
    private static final int DRAW_TIMES = 1103;
    private static final int DRAW_MORE = 12345;
    private static final int DRAW_MODULUS = 1000003;

    private static final int REFUSAL_KINDS = 5;
    private static final int FIRST_REFUSAL_COUNT = 7;
    private static final int FIRST_TERM_COUNT = 13;

    private final Chest now = new Chest();
    /** What ORDERS go back to; between calls it is also the paper on which CALLED IN is tried. */
    private final Chest before = new Chest();
    private final Chest[] images = new Chest[MOST_IMAGES];
    private Chest afterYears;
    private final Deeds deeds = new Deeds();
    private final Deeds deedsBefore = new Deeds();
    private final int[] tape = new int[MOST_BYTES];
    private int tapeLength;
    private final Reader reader = new Reader();
    private final Rules rules = new Rules();
    private final Halves halves = new Halves();
    private final Debts debts = new Debts();
    private final CallingIn callingIn = new CallingIn();
    /** CALLED IN is dear and asked stick by stick, so it is kept until a call is accepted. */
    private boolean callRowKnown;
    private int callRowLength;
    private int faultPlace = NONE;
    private int stoppedAt = NONE;
    private int chipCount;
    private int latestRefusal;
    private final int[] refusals = new int[REFUSAL_KINDS];

    public TallySticks() {
    }

    public int person(int purse) {
        if (purse < 0 || purse > FULL_PURSE) {
            return refuse(BAD_NUMBER);
        }
        if (now.people >= MOST_PEOPLE) {
            return refuse(NO_ROOM);
        }
        deeds.forget();
        return accept(now.addPerson(purse));
    }

    public int of(int person, int what) {
        if (!now.hasPerson(person)) {
            return NOTHING;
        }
        switch (what) {
            case 0:
                return now.purse[person];
            case 1:
                return now.netOf(person);
            case 2:
                return now.openSticks(now.holds, person);
            case 3:
                return now.openSticks(now.owes, person);
            default:
                return NOTHING;
        }
    }

    public int stick(int owes, int holds, int sum, int grain, int kind, int due) {
        if (owes == holds || !isSum(sum) || !isGrain(grain)) {
            return refuse(BAD_NUMBER);
        }
        if (kind < 0 || kind > LAST_KIND || due < 0 || due > LAST_DAY) {
            return refuse(BAD_NUMBER);
        }
        if (!now.hasPerson(owes) || !now.hasPerson(holds)) {
            return refuse(NOT_THERE);
        }
        if (now.sticks >= MOST_STICKS) {
            return refuse(NO_ROOM);
        }
        deeds.forget();
        return accept(now.addStick(owes, holds, sum, grain, kind, due));
    }

    public int at(int stick, int what) {
        if (!now.hasStick(stick)) {
            return NONE;
        }
        switch (what) {
            case 0:
                return now.owes[stick];
            case 1:
                return now.holds[stick];
            case 2:
                return now.sum[stick];
            case 3:
                return now.grain[stick];
            case 4:
                return now.kind[stick];
            case 5:
                return now.due[stick];
            case 6:
                return now.paid[stick];
            case 7:
                return rules.payOf(now, stick);
            case 8:
                return rules.wearOf(now, stick);
            default:
                return NONE;
        }
    }

    public int foil(int grain, int sum) {
        if (!isGrain(grain) || !isSum(sum)) {
            return refuse(BAD_NUMBER);
        }
        if (now.foils >= MOST_FOILS) {
            return refuse(NO_ROOM);
        }
        return accept(now.addFoil(grain, sum));
    }

    public int half(int foil, int what) {
        if (!now.hasFoil(foil) || what < 0 || what > 1) {
            return NONE;
        }
        return what == 0 ? now.foilGrain[foil] : now.foilSum[foil];
    }

    public int terms(int what, int value) {
        if (what < 0 || what >= TERM_COUNT || value < 0 || value > lastOfTerm(what)) {
            return refuse(BAD_NUMBER);
        }
        int was = now.terms[what];
        now.terms[what] = value;
        deeds.forget();
        return accept(was);
    }

    public int feed(int a, int b, int c, int d, int e) {
        if (tapeLength + FED_BYTES > MOST_BYTES) {
            return NONE;
        }
        putBytes(a);
        putBytes(b);
        putBytes(c);
        putBytes(d);
        putBytes(e);
        return tapeLength;
    }

    public int end(int n) {
        if (n < 0 || n > tapeLength) {
            return NONE;
        }
        tapeLength = n;
        return n;
    }

    public int row() {
        int length = emptyTape();
        if (length == 0) {
            return refuse(BAD_TEXT);
        }
        int came = 0;
        int chipped = 0;
        for (int place = 0; place < length; place += 3) {
            if (place + 2 < length && cutFoil(tape[place], tape[place + 1], tape[place + 2])) {
                came++;
            } else {
                chipped++;
            }
        }
        chipCount = chipped;
        return accept(came);
    }

    public int chips() {
        return chipCount;
    }

    public int law() {
        int length = emptyTape();
        if (now.lawCount >= MOST_LAWS) {
            return refuse(NO_ROOM);
        }
        faultPlace = reader.readText(tape, length, true);
        if (faultPlace != NONE) {
            return refuse(BAD_TEXT);
        }
        return accept(now.addLaw(reader.program.trimmed()));
    }

    public int orders() {
        int length = emptyTape();
        stoppedAt = NONE;
        faultPlace = reader.readText(tape, length, false);
        if (faultPlace != NONE) {
            return refuse(BAD_TEXT);
        }
        before.copyFrom(now);
        deedsBefore.copyFrom(deeds);
        rules.startOrders(now);
        for (int clause = 0; clause < reader.program.clauses; clause++) {
            int times = reader.program.headOf(clause, Program.TIMES);
            for (int turn = 0; turn < times; turn++) {
                if (!runOrder(reader.program, clause)) {
                    now.copyFrom(before);
                    deeds.copyFrom(deedsBefore);
                    stoppedAt = clause;
                    return refuse(CANNOT_BE);
                }
            }
        }
        return accept(rules.done);
    }

    public int fault() {
        return faultPlace;
    }

    public int stopped() {
        return stoppedAt;
    }

    public int force(int law) {
        if (law < NONE || law >= now.lawCount) {
            return refuse(NOT_THERE);
        }
        int was = now.inForce;
        now.inForce = law;
        return accept(was);
    }

    public int asks(int stick, int to) {
        if (!now.hasStick(stick) || !now.hasPerson(to)) {
            return NONE;
        }
        return rules.isBarred(now, stick, to) ? 1 : 0;
    }

    public int give(int stick, int to) {
        return answer(perform(GIVE, stick, to));
    }

    public int call(int stick) {
        return answer(perform(CALL, stick, 0));
    }

    public int shave(int stick, int by) {
        return answer(perform(SHAVE, stick, by));
    }

    public int pass() {
        return answer(perform(PASS, 0, 0));
    }

    public int undo() {
        if (deeds.kept == 0) {
            return refuse(CANNOT_BE);
        }
        return accept(deeds.takeBack(now));
    }

    public int fit(int stick, int foil, int what) {
        if (!now.hasStick(stick) || !now.hasFoil(foil) || what < 0 || what > 1) {
            return NONE;
        }
        if (what == 0) {
            return Integer.bitCount(now.grain[stick] ^ now.foilGrain[foil]);
        }
        return now.fits(stick, foil, rules.wearOf(now, stick)) ? 1 : 0;
    }

    public int match(int what) {
        if (what < 0 || what > now.sticks) {
            return NONE;
        }
        int matched = halves.matchMost(now, rules);
        return what == 0 ? matched : halves.foilOf[what - 1];
    }

    public int odd() {
        return halves.oddFoils(now, rules);
    }

    public int apart(int what) {
        if (what < 0 || what > 1) {
            return NONE;
        }
        int fibres = halves.fewestFibres(now);
        return what == 0 && fibres != NONE ? Integer.bitCount(fibres) : fibres;
    }

    public int told(int stick, int f, int what) {
        if (!now.hasStick(stick) || f < 0 || f > MOST_NOTCHES || what < 0 || what > 1) {
            return NONE;
        }
        return what == 0 ? halves.toldCount(now.sum[stick], f) : halves.toldMost(now.sum[stick], f);
    }

    public int settle(int what) {
        if (what < 0 || what > now.people) {
            return NONE;
        }
        int sticks = debts.settleAll(now);
        return what == 0 ? sticks : debts.groupOf[what - 1];
    }

    public int ring(int what) {
        if (what < 0) {
            return NONE;
        }
        int length = debts.shortestRing(now);
        if (what > length) {
            return NONE;
        }
        return what == 0 ? length : debts.ringRow[what - 1];
    }

    public int chain(int from, int to) {
        if (!now.hasPerson(from) || !now.hasPerson(to) || from == to) {
            return NONE;
        }
        return debts.shortestChain(now, from, to);
    }

    public int calls(int i) {
        if (i < NONE) {
            return NONE;
        }
        if (!callRowKnown) {
            before.copyFrom(now);
            callRowLength = callingIn.longestRow(before, rules);
            callRowKnown = true;
        }
        if (i == NONE) {
            return callRowLength;
        }
        return i < callRowLength ? callingIn.best[i] : NONE;
    }

    public int years(int seed, int n) {
        if (seed < 0 || seed > LAST_SEED || n < 1 || n > MOST_DAYS) {
            return refuse(BAD_NUMBER);
        }
        if (now.sticks == 0 || now.people == 0) {
            return refuse(CANNOT_BE);
        }
        if (afterYears == null) {
            afterYears = new Chest();
        }
        afterYears.copyFrom(now);
        int draw = seed;
        int called = 0;
        for (int day = 0; day < n && afterYears.terms[DAY] < LAST_DAY; day++) {
            draw = nextDraw(draw);
            int stick = draw % afterYears.sticks;
            draw = nextDraw(draw);
            int person = draw % afterYears.people;
            if (rules.tryCall(afterYears, stick) >= 0) {
                called++;
            } else {
                rules.tryGive(afterYears, stick, person);
            }
            rules.tryPass(afterYears);
        }
        return accept(called);
    }

    public int drawn(int k, int what) {
        Chest paper = afterYears;
        if (paper == null) {
            return NONE;
        }
        if (what == 0) {
            return paper.hasPerson(k) ? paper.purse[k] : NONE;
        }
        if (!paper.hasStick(k)) {
            return NONE;
        }
        if (what == 1) {
            return paper.holds[k];
        }
        return what == 2 ? paper.paid[k] : NONE;
    }

    public int image(int k) {
        if (k < 0 || k >= MOST_IMAGES) {
            return refuse(BAD_NUMBER);
        }
        Chest picture = images[k];
        if (picture == null) {
            picture = new Chest();
            images[k] = picture;
        }
        picture.copyFrom(now);
        return accept(0);
    }

    public int back(int k) {
        if (k < 0 || k >= MOST_IMAGES) {
            return refuse(BAD_NUMBER);
        }
        Chest picture = images[k];
        if (picture == null) {
            return refuse(NOT_THERE);
        }
        now.copyFrom(picture);
        deeds.forget();
        return accept(0);
    }

    public int count(int what) {
        if (what >= FIRST_REFUSAL_COUNT && what < FIRST_REFUSAL_COUNT + REFUSAL_KINDS) {
            return refusals[what - FIRST_REFUSAL_COUNT];
        }
        if (what >= FIRST_TERM_COUNT && what < FIRST_TERM_COUNT + TERM_COUNT) {
            return now.terms[what - FIRST_TERM_COUNT];
        }
        switch (what) {
            case 0:
                return now.people;
            case 1:
                return now.sticks;
            case 2:
                return now.foils;
            case 3:
                return now.paidSticks();
            case 4:
                return now.lawCount;
            case 5:
                return deeds.kept;
            case 6:
                return tapeLength;
            case 12:
                return now.inForce;
            default:
                return NONE;
        }
    }

    public int status() {
        return latestRefusal;
    }

    private static boolean isSum(int sum) {
        return sum >= 1 && sum <= FULL_SUM;
    }

    private static boolean isGrain(int grain) {
        return grain >= 0 && grain <= FULL_GRAIN;
    }

    private static int lastOfTerm(int what) {
        if (what == DAY) {
            return LAST_DAY;
        }
        return what == DAMP ? FIBRES : LAST_MOOD;
    }

    private int accept(int told) {
        latestRefusal = 0;
        callRowKnown = false;
        return told;
    }

    private int refuse(int why) {
        latestRefusal = why;
        /* There is no -4, so the last two kinds stand one place nearer. */
        int kind = why >= CANNOT_BE ? -why - 1 : -why - 2;
        if (kind >= 0 && kind < REFUSAL_KINDS) {
            refusals[kind]++;
        }
        return why;
    }

    private int answer(int told) {
        return told < 0 ? refuse(told) : accept(told);
    }

    /** Does a deed in the chest itself, so that it can be undone; below 0 it was refused. */
    private int perform(int deed, int first, int second) {
        deeds.prepare(deed, now, first);
        int told;
        switch (deed) {
            case GIVE:
                told = rules.tryGive(now, first, second);
                break;
            case CALL:
                told = rules.tryCall(now, first);
                break;
            case SHAVE:
                told = rules.tryShave(now, first, second);
                break;
            default:
                told = rules.tryPass(now);
                break;
        }
        if (told >= 0) {
            deeds.keep();
        }
        return told;
    }

    /** One turn of an order; false if it can't be. */
    private boolean runOrder(Program program, int clause) {
        int secondFrom = program.headOf(clause, Program.SECOND);
        int testFrom = program.headOf(clause, Program.TEST);
        if (rules.compute(program, testFrom, program.headOf(clause, Program.STOP)) != 1) {
            return true;
        }
        int first = rules.compute(program, program.headOf(clause, Program.FIRST), secondFrom);
        if (first == Rules.BROKEN) {
            return false;
        }
        int second = rules.compute(program, secondFrom, testFrom);
        if (second == Rules.BROKEN) {
            return false;
        }
        int deed = program.headOf(clause, Program.KIND);
        int told = perform(deed, first, second);
        if (told < 0) {
            return false;
        }
        rules.done++;
        if (deed == CALL) {
            rules.latest = told;
        }
        return true;
    }

    private static int nextDraw(int draw) {
        return (draw * DRAW_TIMES + DRAW_MORE) % DRAW_MODULUS;
    }

    private int emptyTape() {
        int length = tapeLength;
        tapeLength = 0;
        return length;
    }

    private void putBytes(int four) {
        for (int shift = 24; shift >= 0 && tapeLength < MOST_BYTES; shift -= 8) {
            tape[tapeLength] = (four >>> shift) & 255;
            tapeLength++;
        }
    }

    private boolean cutFoil(int high, int low, int sum) {
        if (low > 15 || sum < 1 || now.foils >= MOST_FOILS) {
            return false;
        }
        now.addFoil(high * 16 + low, sum);
        return true;
    }

    /** All that an IMAGE keeps. */
    private static final class Chest {
        private int people;
        private final int[] purse = new int[MOST_PEOPLE];
        private int sticks;
        private final int[] owes = new int[MOST_STICKS];
        private final int[] holds = new int[MOST_STICKS];
        private final int[] sum = new int[MOST_STICKS];
        private final int[] grain = new int[MOST_STICKS];
        private final int[] kind = new int[MOST_STICKS];
        private final int[] due = new int[MOST_STICKS];
        private final int[] paid = new int[MOST_STICKS];
        private int foils;
        private final int[] foilGrain = new int[MOST_FOILS];
        private final int[] foilSum = new int[MOST_FOILS];
        private final int[] terms = new int[TERM_COUNT];
        private int lawCount;
        /** A law is never changed once it is kept, so chests may share it. */
        private final Program[] laws = new Program[MOST_LAWS];
        private int inForce = NONE;

        private Chest() {
            terms[DAMP] = 2;
        }

        private void copyFrom(Chest other) {
            people = other.people;
            sticks = other.sticks;
            foils = other.foils;
            lawCount = other.lawCount;
            inForce = other.inForce;
            System.arraycopy(other.purse, 0, purse, 0, MOST_PEOPLE);
            System.arraycopy(other.owes, 0, owes, 0, MOST_STICKS);
            System.arraycopy(other.holds, 0, holds, 0, MOST_STICKS);
            System.arraycopy(other.sum, 0, sum, 0, MOST_STICKS);
            System.arraycopy(other.grain, 0, grain, 0, MOST_STICKS);
            System.arraycopy(other.kind, 0, kind, 0, MOST_STICKS);
            System.arraycopy(other.due, 0, due, 0, MOST_STICKS);
            System.arraycopy(other.paid, 0, paid, 0, MOST_STICKS);
            System.arraycopy(other.foilGrain, 0, foilGrain, 0, MOST_FOILS);
            System.arraycopy(other.foilSum, 0, foilSum, 0, MOST_FOILS);
            System.arraycopy(other.terms, 0, terms, 0, TERM_COUNT);
            for (int i = 0; i < MOST_LAWS; i++) {
                laws[i] = other.laws[i];
            }
        }

        private boolean hasPerson(int person) {
            return person >= 0 && person < people;
        }

        private boolean hasStick(int stick) {
            return stick >= 0 && stick < sticks;
        }

        private boolean hasFoil(int foil) {
            return foil >= 0 && foil < foils;
        }

        private int addPerson(int ownPurse) {
            if (people >= MOST_PEOPLE) {
                return NONE;
            }
            purse[people] = ownPurse;
            return people++;
        }

        private int addStick(int ower, int holder, int ownSum, int ownGrain, int ownKind, int ownDue) {
            if (sticks >= MOST_STICKS) {
                return NONE;
            }
            owes[sticks] = ower;
            holds[sticks] = holder;
            sum[sticks] = ownSum;
            grain[sticks] = ownGrain;
            kind[sticks] = ownKind;
            due[sticks] = ownDue;
            paid[sticks] = 0;
            return sticks++;
        }

        private int addFoil(int ownGrain, int ownSum) {
            if (foils >= MOST_FOILS) {
                return NONE;
            }
            foilGrain[foils] = ownGrain;
            foilSum[foils] = ownSum;
            return foils++;
        }

        private int addLaw(Program read) {
            if (lawCount >= MOST_LAWS) {
                return NONE;
            }
            laws[lawCount] = read;
            return lawCount++;
        }

        private Program lawInForce() {
            return inForce >= 0 && inForce < lawCount ? laws[inForce] : null;
        }

        private boolean isOpen(int stick) {
            return hasStick(stick) && paid[stick] == 0;
        }

        private boolean isCallable(int stick) {
            return isOpen(stick) && due[stick] <= terms[DAY];
        }

        private int netOf(int person) {
            int net = 0;
            for (int s = 0; s < sticks; s++) {
                if (paid[s] == 0) {
                    net += holds[s] == person ? sum[s] : 0;
                    net -= owes[s] == person ? sum[s] : 0;
                }
            }
            return net;
        }

        /** How many sticks that are not paid have the person in the given row, holds or owes. */
        private int openSticks(int[] side, int person) {
            int found = 0;
            for (int s = 0; s < sticks && s < side.length; s++) {
                if (paid[s] == 0 && side[s] == person) {
                    found++;
                }
            }
            return found;
        }

        private int paidSticks() {
            int found = 0;
            for (int s = 0; s < sticks; s++) {
                found += paid[s];
            }
            return found;
        }

        private boolean fits(int stick, int foil, int worn) {
            return Integer.bitCount(grain[stick] ^ foilGrain[foil]) <= worn && sum[stick] <= foilSum[foil];
        }

        /** From the purse of who owes the stick to that of who holds it; false if there is not so much. */
        private boolean payOver(int stick, int amount) {
            int from = owes[stick];
            int to = holds[stick];
            if (purse[from] < amount) {
                return false;
            }
            purse[from] -= amount;
            purse[to] = Math.min(FULL_PURSE, purse[to] + amount);
            return true;
        }
    }

    /** The latest deeds with what stood ahead of each; one slot more than are kept, so that one can be prepared. */
    private static final class Deeds {
        private static final int MOST_KEPT = 16;
        private static final int SLOTS = 17;
        private static final int WIDTH = 7;

        private final int[] rows = new int[SLOTS * WIDTH];
        private int oldest;
        private int kept;

        private void forget() {
            kept = 0;
        }

        private void copyFrom(Deeds other) {
            System.arraycopy(other.rows, 0, rows, 0, SLOTS * WIDTH);
            oldest = other.oldest;
            kept = other.kept;
        }

        /** Notes what stands in the free slot; it counts only when keep() follows. */
        private void prepare(int deed, Chest chest, int stick) {
            int at = (oldest + kept) % SLOTS * WIDTH;
            rows[at] = deed;
            if (deed == PASS || !chest.hasStick(stick)) {
                return;
            }
            int holder = chest.holds[stick];
            rows[at + 1] = stick;
            rows[at + 2] = holder;
            rows[at + 3] = chest.paid[stick];
            rows[at + 4] = chest.sum[stick];
            rows[at + 5] = chest.purse[chest.owes[stick]];
            rows[at + 6] = chest.purse[holder];
        }

        private void keep() {
            if (kept < MOST_KEPT) {
                kept++;
            } else {
                oldest = (oldest + 1) % SLOTS;
            }
        }

        private int takeBack(Chest chest) {
            if (kept < 1) {
                return NONE;
            }
            kept--;
            int at = (oldest + kept) % SLOTS * WIDTH;
            int deed = rows[at];
            if (deed == PASS) {
                chest.terms[DAY]--;
                return deed;
            }
            int stick = rows[at + 1];
            int holder = rows[at + 2];
            chest.holds[stick] = holder;
            chest.paid[stick] = rows[at + 3];
            chest.sum[stick] = rows[at + 4];
            chest.purse[chest.owes[stick]] = rows[at + 5];
            chest.purse[holder] = rows[at + 6];
            return deed;
        }
    }

    /** A TEXT that was read: a head for each CLAUSE, and steps for a machine with a stack. */
    private static final class Program {
        private static final int MOST_CLAUSES = 12;
        private static final int HEAD = 6;
        private static final int KIND = 0;
        private static final int TIMES = 1;
        /** Where the first SUM, the second SUM and the TEST begin; each ends where the next begins. */
        private static final int FIRST = 2;
        private static final int SECOND = 3;
        private static final int TEST = 4;
        private static final int STOP = 5;
        /** A step is its sign times this, and its number: a NUMBER or a place among the steps. */
        private static final int STEP = 1024;

        private static final int PUSH = 0;
        private static final int ADD = 1;
        private static final int SUBTRACT = 2;
        private static final int MULTIPLY = 3;
        private static final int DIVIDE = 4;
        private static final int REMAINDER = 5;
        private static final int LESS = 6;
        private static final int MORE = 7;
        private static final int SAME = 8;
        private static final int NOT = 9;
        private static final int SKIP_IF_SO = 10;
        private static final int SKIP_IF_NOT = 11;
        private static final int OWES = 12;
        private static final int HOLDS = 13;
        private static final int SUM = 14;
        private static final int STICK_KIND = 15;
        private static final int LATE = 16;
        private static final int OWER_PURSE = 17;
        private static final int TO = 18;
        private static final int TODAY = 19;
        private static final int THE_MOOD = 20;
        private static final int DONE = 21;
        private static final int LATEST = 22;
        private static final int PURSE_OF = 23;
        private static final int HOLDER_OF = 24;
        private static final int SUM_OF = 25;

        private int clauses;
        private int length;
        private final int[] heads;
        private final int[] steps;

        private Program(int clauseRoom, int stepRoom) {
            heads = new int[Math.max(0, clauseRoom) * HEAD];
            steps = new int[Math.max(0, stepRoom)];
        }

        private Program trimmed() {
            Program copy = new Program(clauses, length);
            copy.clauses = clauses;
            copy.length = length;
            System.arraycopy(heads, 0, copy.heads, 0, copy.heads.length);
            System.arraycopy(steps, 0, copy.steps, 0, copy.steps.length);
            return copy;
        }

        private int headOf(int clause, int which) {
            int place = clause * HEAD + which;
            return place >= 0 && place < heads.length ? heads[place] : 0;
        }

        private void clear() {
            clauses = 0;
            length = 0;
        }

        private void openClause(int clauseKind) {
            if (clauses >= MOST_CLAUSES) {
                return;
            }
            clauses++;
            setHead(KIND, clauseKind);
            setHead(TIMES, 1);
            markFrom(FIRST);
        }

        /** The part begins here, and so do all behind it, until they are marked themselves. */
        private void markFrom(int which) {
            for (int part = which; part <= STOP; part++) {
                setHead(part, length);
            }
        }

        private void setHead(int which, int value) {
            int place = (clauses - 1) * HEAD + which;
            if (place >= 0 && place < heads.length) {
                heads[place] = value;
            }
        }

        /** Each step comes from a TOKEN of its own, so a full TAPE has room enough. */
        private void addStep(int sign, int number) {
            if (length < steps.length) {
                steps[length] = sign * STEP + number;
                length++;
            }
        }

        private void aimStep(int place) {
            if (place >= 0 && place < length) {
                steps[place] += length;
            }
        }
    }

    /** Reads a TEXT of either language into its program. */
    private static final class Reader {
        private static final int AT_END = 0;
        private static final int WORD = 1;
        private static final int NUMBER = 2;
        private static final int SIGN = 3;
        private static final int MOST_PARTS = 50;
        private static final int MOST_BRACKETS = 8;
        private static final int LAST_NUMBER = 1000;
        private static final int MOST_TIMES = 20;

        private final Program program = new Program(Program.MOST_CLAUSES, MOST_BYTES);
        private int[] bytes = new int[0];
        private int length;
        private boolean lawful;
        private int shape;
        private int place;
        private int behind;
        private int value;
        private int parts;
        private int faultAt;

        /** Answers FAULT, or NONE. */
        private int readText(int[] text, int textLength, boolean asLaw) {
            bytes = text;
            length = Math.min(textLength, text.length);
            lawful = asLaw;
            behind = 0;
            parts = 0;
            faultAt = NONE;
            program.clear();
            advance();
            for (int i = 0; i < Program.MOST_CLAUSES; i++) {
                if (lawful) {
                    readLawHead();
                } else {
                    readOrderHead();
                }
                readCondition();
                if (faultAt != NONE || shape == AT_END) {
                    return faultAt;
                }
                if (!takeSign(';')) {
                    fail();
                    return faultAt;
                }
            }
            fail();
            return faultAt;
        }

        private void readLawHead() {
            if (takeWord("pays")) {
                readOneSum(PAYS);
            } else if (takeWord("wears")) {
                readOneSum(WEARS);
            } else if (takeWord("bars")) {
                program.openClause(BARS);
            } else {
                fail();
            }
        }

        private void readOrderHead() {
            if (takeWord("give")) {
                readTwoSums(GIVE, "to");
            } else if (takeWord("call")) {
                readOneSum(CALL);
            } else if (takeWord("shave")) {
                readTwoSums(SHAVE, "by");
            } else if (takeWord("pass")) {
                program.openClause(PASS);
            } else {
                fail();
            }
            if (faultAt == NONE && takeWord("times")) {
                program.setHead(Program.TIMES, readNumber(1, MOST_TIMES));
            }
        }

        private void readOneSum(int kind) {
            program.openClause(kind);
            readSum(0);
            program.markFrom(Program.SECOND);
        }

        private void readTwoSums(int kind, String between) {
            program.openClause(kind);
            readSum(0);
            program.markFrom(Program.SECOND);
            if (faultAt == NONE && !takeWord(between)) {
                fail();
            }
            readSum(0);
            program.markFrom(Program.TEST);
        }

        private void readCondition() {
            if (faultAt == NONE && takeWord("if")) {
                readTest(0);
                program.markFrom(Program.STOP);
            }
        }

        private void readTest(int depth) {
            readBoth(depth);
            for (int turn = 0; turn < length && faultAt == NONE && takeWord("or"); turn++) {
                int skip = program.length;
                program.addStep(Program.SKIP_IF_SO, 0);
                readBoth(depth);
                program.aimStep(skip);
            }
        }

        private void readBoth(int depth) {
            readPlain(depth);
            for (int turn = 0; turn < length && faultAt == NONE && takeWord("and"); turn++) {
                int skip = program.length;
                program.addStep(Program.SKIP_IF_NOT, 0);
                readPlain(depth);
                program.aimStep(skip);
            }
        }

        private void readPlain(int depth) {
            boolean turned = false;
            for (int turn = 0; turn < length && faultAt == NONE && takeWord("not"); turn++) {
                turned = !turned;
            }
            if (opensBracket('(', depth)) {
                readTest(depth + 1);
                closeBracket(')');
            } else {
                readSum(depth);
                int sign = takeComparison();
                readSum(depth);
                program.addStep(sign, 0);
            }
            if (turned) {
                program.addStep(Program.NOT, 0);
            }
        }

        private void readSum(int depth) {
            readTerm(depth);
            for (int turn = 0; turn < length && faultAt == NONE; turn++) {
                int sign = isSign('+') ? Program.ADD : Program.SUBTRACT;
                if (!takeSign('+') && !takeSign('-')) {
                    return;
                }
                readTerm(depth);
                program.addStep(sign, 0);
            }
        }

        private void readTerm(int depth) {
            readPart(depth);
            for (int turn = 0; turn < length && faultAt == NONE; turn++) {
                int sign = isSign('*') ? Program.MULTIPLY : isSign('/') ? Program.DIVIDE : Program.REMAINDER;
                if (!takeSign('*') && !takeSign('/') && !takeSign('%')) {
                    return;
                }
                readPart(depth);
                program.addStep(sign, 0);
            }
        }

        private void readPart(int depth) {
            if (opensBracket('[', depth)) {
                readSum(depth + 1);
                closeBracket(']');
            } else if (faultAt != NONE || parts >= MOST_PARTS) {
                fail();
            } else if (shape == NUMBER) {
                parts++;
                program.addStep(Program.PUSH, readNumber(0, LAST_NUMBER));
            } else {
                parts++;
                readWord(lawful ? lawWord() : orderWord());
            }
        }

        private void readWord(int sign) {
            if (sign == NONE) {
                fail();
                return;
            }
            advance();
            int which = 0;
            if (sign == Program.PURSE_OF) {
                which = readNumber(0, MOST_PEOPLE - 1);
            } else if (sign == Program.HOLDER_OF || sign == Program.SUM_OF) {
                which = readNumber(0, MOST_STICKS - 1);
            }
            program.addStep(sign, which);
        }

        private int lawWord() {
            if (isWord("owes")) {
                return Program.OWES;
            }
            if (isWord("holds")) {
                return Program.HOLDS;
            }
            if (isWord("sum")) {
                return Program.SUM;
            }
            if (isWord("kind")) {
                return Program.STICK_KIND;
            }
            if (isWord("late")) {
                return Program.LATE;
            }
            if (isWord("purse")) {
                return Program.OWER_PURSE;
            }
            if (isWord("to")) {
                return Program.TO;
            }
            if (isWord("day")) {
                return Program.TODAY;
            }
            return isWord("mood") ? Program.THE_MOOD : NONE;
        }

        private int orderWord() {
            if (isWord("day")) {
                return Program.TODAY;
            }
            if (isWord("done")) {
                return Program.DONE;
            }
            if (isWord("latest")) {
                return Program.LATEST;
            }
            if (isWord("purse")) {
                return Program.PURSE_OF;
            }
            if (isWord("holder")) {
                return Program.HOLDER_OF;
            }
            return isWord("sum") ? Program.SUM_OF : NONE;
        }

        private int takeComparison() {
            int sign = isSign('<') ? Program.LESS : isSign('>') ? Program.MORE : Program.SAME;
            if (!takeSign('<') && !takeSign('>') && !takeSign('=')) {
                fail();
            }
            return sign;
        }

        private int readNumber(int low, int high) {
            if (shape != NUMBER || value < low || value > high) {
                fail();
                return low;
            }
            int number = value;
            advance();
            return number;
        }

        /** True behind a bracket that opens; one too deep is a fault. */
        private boolean opensBracket(char bracket, int depth) {
            if (faultAt != NONE || !isSign(bracket)) {
                return false;
            }
            if (depth >= MOST_BRACKETS) {
                fail();
                return false;
            }
            advance();
            return true;
        }

        private void closeBracket(char bracket) {
            if (!isSign(bracket)) {
                fail();
            }
            advance();
        }

        /** The first fault stays; what is read behind it no longer matters. */
        private void fail() {
            if (faultAt == NONE) {
                faultAt = place;
            }
        }

        private boolean isSign(char sign) {
            return shape == SIGN && value == sign;
        }

        private boolean takeSign(char sign) {
            if (!isSign(sign)) {
                return false;
            }
            advance();
            return true;
        }

        private boolean isWord(String word) {
            if (shape != WORD || behind - place != word.length()) {
                return false;
            }
            for (int i = 0; i < word.length(); i++) {
                if (bytes[place + i] != word.charAt(i)) {
                    return false;
                }
            }
            return true;
        }

        private boolean takeWord(String word) {
            if (!isWord(word)) {
                return false;
            }
            advance();
            return true;
        }

        /** The TOKEN behind becomes the one that is looked at. */
        private void advance() {
            while (behind < length && bytes[behind] == ' ') {
                behind++;
            }
            place = behind;
            int sign = place < length ? bytes[place] : 0;
            if (place >= length) {
                shape = AT_END;
            } else if (sign >= 'a' && sign <= 'z') {
                shape = WORD;
                while (behind < length && bytes[behind] >= 'a' && bytes[behind] <= 'z') {
                    behind++;
                }
            } else if (sign >= '0' && sign <= '9') {
                shape = NUMBER;
                value = 0;
                while (behind < length && bytes[behind] >= '0' && bytes[behind] <= '9') {
                    /* Beyond the last NUMBER it only has to stay beyond. */
                    value = Math.min(LAST_NUMBER + 1, value * 10 + bytes[behind] - '0');
                    behind++;
                }
            } else {
                shape = SIGN;
                value = sign;
                behind++;
            }
        }
    }

    /** Asks the law in force, and does deeds in any chest, on paper too; deeds answer below 0 if refused. */
    private static final class Rules {
        /** No value that is not BROKEN is so far from 0. */
        private static final int BROKEN = -2000000000;
        private static final long FARTHEST = 1000000000L;
        /** Eight brackets, each behind two pending values, leave the stack under twenty-four. */
        private static final int STACK_ROOM = 64;
        private static final int MOST_SHAVED = 998;

        private final int[] stack = new int[STACK_ROOM];
        private Chest chest;
        private int stick;
        private int to = NONE;
        private int done;
        private int latest = NONE;

        /** Laws that are asked while ORDERS run are asked of the same chest, so it stays the one. */
        private void startOrders(Chest asked) {
            chest = asked;
            done = 0;
            latest = NONE;
        }

        private int payOf(Chest asked, int which) {
            return clamp(lastTold(asked, which, PAYS, asked.sum[which]), FULL_PURSE);
        }

        private int wearOf(Chest asked, int which) {
            return clamp(lastTold(asked, which, WEARS, asked.terms[DAMP]), FIBRES);
        }

        private static int clamp(int told, int most) {
            return Math.max(0, Math.min(most, told));
        }

        /** Clauses change nothing, so the last that holds is found from the end. */
        private int lastTold(Chest asked, int which, int kind, int without) {
            Program law = asked.lawInForce();
            if (law == null || !asked.hasStick(which)) {
                return without;
            }
            chest = asked;
            stick = which;
            to = NONE;
            for (int i = law.clauses - 1; i >= 0; i--) {
                int testFrom = law.headOf(i, Program.TEST);
                if (law.headOf(i, Program.KIND) == kind
                        && compute(law, testFrom, law.headOf(i, Program.STOP)) == 1) {
                    int told = compute(law, law.headOf(i, Program.FIRST), testFrom);
                    if (told != BROKEN) {
                        return told;
                    }
                }
            }
            return without;
        }

        private boolean isBarred(Chest asked, int which, int person) {
            Program law = asked.lawInForce();
            if (law == null || !asked.hasStick(which)) {
                return false;
            }
            chest = asked;
            stick = which;
            to = person;
            for (int i = 0; i < law.clauses; i++) {
                if (law.headOf(i, Program.KIND) == BARS
                        && compute(law, law.headOf(i, Program.TEST), law.headOf(i, Program.STOP)) == 1) {
                    return true;
                }
            }
            return false;
        }

        private int tryGive(Chest held, int which, int person) {
            if (!held.hasStick(which) || !held.hasPerson(person)) {
                return NOT_THERE;
            }
            int holder = held.holds[which];
            if (!held.isOpen(which) || holder == person || isBarred(held, which, person)) {
                return CANNOT_BE;
            }
            if (held.owes[which] == person) {
                held.paid[which] = 1;
            } else {
                held.holds[which] = person;
            }
            return holder;
        }

        private int tryCall(Chest held, int which) {
            if (!held.hasStick(which)) {
                return NOT_THERE;
            }
            if (!held.isCallable(which)) {
                return CANNOT_BE;
            }
            int pay = payOf(held, which);
            if (!held.payOver(which, pay)) {
                return CANNOT_BE;
            }
            held.paid[which] = 1;
            return pay;
        }

        private int tryShave(Chest held, int which, int by) {
            if (by < 1 || by > MOST_SHAVED) {
                return BAD_NUMBER;
            }
            if (!held.hasStick(which)) {
                return NOT_THERE;
            }
            if (!held.isOpen(which) || by >= held.sum[which] || !held.payOver(which, by)) {
                return CANNOT_BE;
            }
            held.sum[which] -= by;
            return held.sum[which];
        }

        private int tryPass(Chest held) {
            if (held.terms[DAY] >= LAST_DAY) {
                return CANNOT_BE;
            }
            held.terms[DAY]++;
            return held.terms[DAY];
        }

        /** A SUM's value or BROKEN; a TEST's 1, 0 or BROKEN. Without steps it is 1: a CLAUSE without "if" holds. */
        private int compute(Program program, int from, int stop) {
            int top = 0;
            int last = Math.min(stop, program.steps.length);
            if (from < 0 || from >= last) {
                return 1;
            }
            for (int at = from; at < last; at++) {
                int sign = program.steps[at] / Program.STEP;
                int number = program.steps[at] % Program.STEP;
                if (sign >= Program.OWES || sign == Program.PUSH) {
                    if (top >= STACK_ROOM) {
                        return BROKEN;
                    }
                    stack[top] = sign == Program.PUSH ? number : wordValue(sign, number);
                    top++;
                } else if (top < 1) {
                    return BROKEN;
                } else if (sign == Program.NOT) {
                    stack[top - 1] = 1 - stack[top - 1];
                } else if (sign == Program.SKIP_IF_SO || sign == Program.SKIP_IF_NOT) {
                    if (stack[top - 1] == (sign == Program.SKIP_IF_SO ? 1 : 0)) {
                        at = Math.max(at, number - 1);
                    } else {
                        top--;
                    }
                } else if (top < 2) {
                    return BROKEN;
                } else {
                    top--;
                    stack[top - 1] = combine(sign, stack[top - 1], stack[top]);
                    if (stack[top - 1] == BROKEN) {
                        return BROKEN;
                    }
                }
            }
            return top == 1 ? stack[0] : BROKEN;
        }

        private static int combine(int sign, int left, int right) {
            long result;
            switch (sign) {
                case Program.ADD:
                    result = (long) left + right;
                    break;
                case Program.SUBTRACT:
                    result = (long) left - right;
                    break;
                case Program.MULTIPLY:
                    result = (long) left * right;
                    break;
                case Program.DIVIDE:
                    if (right == 0) {
                        return BROKEN;
                    }
                    result = left / right;
                    break;
                case Program.REMAINDER:
                    if (right == 0) {
                        return BROKEN;
                    }
                    result = left % right;
                    break;
                case Program.LESS:
                    result = left < right ? 1 : 0;
                    break;
                case Program.MORE:
                    result = left > right ? 1 : 0;
                    break;
                default:
                    result = left == right ? 1 : 0;
                    break;
            }
            return result > FARTHEST || result < -FARTHEST ? BROKEN : (int) result;
        }

        private int wordValue(int sign, int which) {
            Chest asked = chest;
            if (asked == null) {
                return NONE;
            }
            switch (sign) {
                case Program.OWES:
                    return asked.owes[stick];
                case Program.HOLDS:
                    return asked.holds[stick];
                case Program.SUM:
                    return asked.sum[stick];
                case Program.STICK_KIND:
                    return asked.kind[stick];
                case Program.LATE:
                    return asked.terms[DAY] - asked.due[stick];
                case Program.OWER_PURSE:
                    return asked.purse[asked.owes[stick]];
                case Program.TO:
                    return to;
                case Program.TODAY:
                    return asked.terms[DAY];
                case Program.THE_MOOD:
                    return asked.terms[MOOD];
                case Program.DONE:
                    return done;
                case Program.LATEST:
                    return latest;
                case Program.PURSE_OF:
                    return which < asked.people ? asked.purse[which] : NONE;
                case Program.HOLDER_OF:
                    return which < asked.sticks ? asked.holds[which] : NONE;
                default:
                    return which < asked.sticks ? asked.sum[which] : NONE;
            }
        }
    }

    /** What is asked of grains and notches. */
    private static final class Halves {
        private static final int MOST_PAIRS = 45;

        private final int[] fitting = new int[MOST_STICKS];
        private final int[] foilOf = new int[MOST_STICKS];
        private final int[] stickOf = new int[MOST_FOILS];
        private final int[] unlike = new int[MOST_PAIRS];
        private int blocked;

        /** For each stick the foils that it fits, as bits. */
        private void seeFitting(Chest chest, Rules rules) {
            for (int s = 0; s < chest.sticks; s++) {
                int worn = rules.wearOf(chest, s);
                fitting[s] = 0;
                for (int f = 0; f < chest.foils; f++) {
                    if (chest.fits(s, f, worn)) {
                        fitting[s] |= 1 << f;
                    }
                }
            }
        }

        private int oddFoils(Chest chest, Rules rules) {
            seeFitting(chest, rules);
            int odd = (1 << chest.foils) - 1;
            for (int s = 0; s < chest.sticks; s++) {
                odd &= ~fitting[s];
            }
            return odd;
        }

        /** Each stick in turn takes the lowest foil with which as many as ever can still be matched. */
        private int matchMost(Chest chest, Rules rules) {
            seeFitting(chest, rules);
            int most = matchFrom(0, chest.sticks, 0);
            int wanted = most;
            int taken = 0;
            for (int s = 0; s < chest.sticks; s++) {
                foilOf[s] = UNPLACED;
                for (int f = 0; f < chest.foils && foilOf[s] == UNPLACED; f++) {
                    int bit = 1 << f;
                    if ((fitting[s] & ~taken & bit) != 0 && matchFrom(s + 1, chest.sticks, taken | bit) == wanted - 1) {
                        foilOf[s] = f;
                        taken |= bit;
                        wanted--;
                    }
                }
            }
            return most;
        }

        private int matchFrom(int first, int sticks, int taken) {
            for (int f = 0; f < MOST_FOILS; f++) {
                stickOf[f] = NONE;
            }
            int matched = 0;
            for (int s = first; s < sticks; s++) {
                blocked = taken;
                if (findFoil(s, 0)) {
                    matched++;
                }
            }
            return matched;
        }

        /** A foil for the stick; who has it already looks for another one. */
        private boolean findFoil(int stick, int depth) {
            if (stick < 0 || stick >= MOST_STICKS || depth > MOST_STICKS) {
                return false;
            }
            for (int f = 0; f < MOST_FOILS; f++) {
                int bit = 1 << f;
                if ((fitting[stick] & ~blocked & bit) != 0) {
                    blocked |= bit;
                    if (stickOf[f] == NONE || findFoil(stickOf[f], depth + 1)) {
                        stickOf[f] = stick;
                        return true;
                    }
                }
            }
            return false;
        }

        /** The fibres as bits, or NONE if two grains are alike. */
        private int fewestFibres(Chest chest) {
            int pairs = 0;
            for (int s = 1; s < chest.sticks; s++) {
                for (int t = 0; t < s && pairs < MOST_PAIRS; t++) {
                    unlike[pairs] = chest.grain[s] ^ chest.grain[t];
                    if (unlike[pairs] == 0) {
                        return NONE;
                    }
                    pairs++;
                }
            }
            int best = FULL_GRAIN;
            int fewest = FIBRES;
            for (int fibres = 0; fibres < FULL_GRAIN; fibres++) {
                if (Integer.bitCount(fibres) < fewest && tellApart(fibres, pairs)) {
                    best = fibres;
                    fewest = Integer.bitCount(fibres);
                }
            }
            return best;
        }

        private boolean tellApart(int fibres, int pairs) {
            for (int i = 0; i < pairs; i++) {
                if ((unlike[i] & fibres) == 0) {
                    return false;
                }
            }
            return true;
        }

        private int toldCount(int sum, int notches) {
            int found = 0;
            for (int candidate = sum; candidate <= FULL_SUM; candidate++) {
                if (canHaveTold(candidate, sum, notches)) {
                    found++;
                }
            }
            return found;
        }

        private int toldMost(int sum, int notches) {
            for (int candidate = FULL_SUM; candidate > sum; candidate--) {
                if (canHaveTold(candidate, sum, notches)) {
                    return candidate;
                }
            }
            return sum;
        }

        private static boolean canHaveTold(int candidate, int sum, int notches) {
            int hundreds = candidate / 100 - sum / 100;
            int tens = candidate / 10 % 10 - sum / 10 % 10;
            int ones = candidate % 10 - sum % 10;
            return hundreds >= 0 && tens >= 0 && ones >= 0 && hundreds + tens + ones <= notches;
        }
    }

    /** What is asked of who owes whom. */
    private static final class Debts {
        private final int[] nets = new int[MOST_PEOPLE];
        private final int[] groups = new int[MOST_PEOPLE];
        private final int[] groupNets = new int[MOST_PEOPLE];
        private final int[] groupOf = new int[MOST_PEOPLE];
        private final int[] ringRow = new int[MOST_PEOPLE];
        private int mostGroups;

        private int settleAll(Chest chest) {
            int unsettled = 0;
            for (int p = 0; p < chest.people; p++) {
                nets[p] = chest.netOf(p);
                groupNets[p] = 0;
                groupOf[p] = UNPLACED;
                unsettled += nets[p] != 0 ? 1 : 0;
            }
            mostGroups = 0;
            partFrom(0, chest.people, 0);
            return unsettled - mostGroups;
        }

        /** Tries rows of groups from the first on, so that only more groups are better than what was found. */
        private void partFrom(int person, int people, int used) {
            if (person >= people || person >= MOST_PEOPLE) {
                keepParting(people, used);
                return;
            }
            if (nets[person] == 0) {
                groups[person] = UNPLACED;
                partFrom(person + 1, people, used);
                return;
            }
            for (int g = 0; g <= used && g < MOST_PEOPLE; g++) {
                groups[person] = g;
                groupNets[g] += nets[person];
                partFrom(person + 1, people, g == used ? used + 1 : used);
                groupNets[g] -= nets[person];
            }
        }

        private void keepParting(int people, int used) {
            if (used <= mostGroups) {
                return;
            }
            for (int g = 0; g < used && g < MOST_PEOPLE; g++) {
                if (groupNets[g] != 0) {
                    return;
                }
            }
            mostGroups = used;
            System.arraycopy(groups, 0, groupOf, 0, Math.min(people, MOST_PEOPLE));
        }

        /** How many sticks, then in ringRow; NONE without a ring. */
        private int shortestRing(Chest chest) {
            for (int length = 2; length <= chest.people; length++) {
                for (int s = 0; s < chest.sticks; s++) {
                    ringRow[0] = s;
                    if (chest.isOpen(s) && closesRing(chest, 1, length, 1 << chest.owes[s])) {
                        return length;
                    }
                }
            }
            return NONE;
        }

        private boolean closesRing(Chest chest, int depth, int length, int met) {
            if (depth < 1 || depth > MOST_PEOPLE) {
                return false;
            }
            int holder = chest.holds[ringRow[depth - 1]];
            if (depth >= length) {
                return holder == chest.owes[ringRow[0]];
            }
            if ((met & 1 << holder) != 0) {
                return false;
            }
            for (int s = ringRow[0] + 1; s < chest.sticks; s++) {
                if (chest.isOpen(s) && chest.owes[s] == holder) {
                    ringRow[depth] = s;
                    if (closesRing(chest, depth + 1, length, met | 1 << holder)) {
                        return true;
                    }
                }
            }
            return false;
        }

        private int shortestChain(Chest chest, int from, int to) {
            int reached = 1 << from;
            for (int length = 1; length < chest.people; length++) {
                int further = reached;
                for (int s = 0; s < chest.sticks; s++) {
                    if (chest.isOpen(s) && (reached & 1 << chest.owes[s]) != 0) {
                        further |= 1 << chest.holds[s];
                    }
                }
                if ((further & 1 << to) != 0) {
                    return length;
                }
                reached = further;
            }
            return NONE;
        }
    }

    /** In what order most can be called in today. */
    private static final class CallingIn {
        private final int[] callable = new int[MOST_CALLABLE];
        private final int[] row = new int[MOST_CALLABLE];
        private final int[] best = new int[MOST_CALLABLE];
        /** On one day what a stick pays hangs on the purse alone: the latest answer, and with which purse. */
        private final int[] askedPurse = new int[MOST_STICKS];
        private final int[] askedPay = new int[MOST_STICKS];
        private int callableCount;
        private int bestLength;

        /** How many, then in best; NONE if there are too many to try. The paper is as it was behind it. */
        private int longestRow(Chest paper, Rules rules) {
            callableCount = 0;
            bestLength = 0;
            for (int s = 0; s < paper.sticks; s++) {
                if (paper.isCallable(s)) {
                    if (callableCount >= MOST_CALLABLE) {
                        return NONE;
                    }
                    callable[callableCount] = s;
                    callableCount++;
                    askedPurse[s] = NONE;
                }
            }
            tryBehind(paper, rules, 0);
            return bestLength;
        }

        /** Tries rows from the first on, so that only a longer one is better than what was found. */
        private void tryBehind(Chest paper, Rules rules, int depth) {
            if (depth > bestLength && depth <= MOST_CALLABLE) {
                bestLength = depth;
                System.arraycopy(row, 0, best, 0, depth);
            }
            if (depth >= MOST_CALLABLE) {
                return;
            }
            for (int i = 0; i < callableCount && bestLength < callableCount; i++) {
                int stick = callable[i];
                if (paper.paid[stick] == 0) {
                    int owes = paper.owes[stick];
                    int holds = paper.holds[stick];
                    int owesPurse = paper.purse[owes];
                    int holdsPurse = paper.purse[holds];
                    if (askedPurse[stick] != owesPurse) {
                        askedPurse[stick] = owesPurse;
                        askedPay[stick] = rules.payOf(paper, stick);
                    }
                    if (paper.payOver(stick, askedPay[stick])) {
                        paper.paid[stick] = 1;
                        row[depth] = stick;
                        tryBehind(paper, rules, depth + 1);
                        paper.paid[stick] = 0;
                        paper.purse[owes] = owesPurse;
                        paper.purse[holds] = holdsPurse;
                    }
                }
            }
        }
    }
}
