/**
 * A parish, whose last sheaf is consulted. The document tells what each call answers;
 * here stands only why it is done as it is done.
 *
 * All rows are made once, in the constructor: calls make no objects.
 */
public final class SheafVotes {
    private static final int LOW = -1000001;
    private static final int BEYOND = 0;
    private static final int FULL = 1;
    private static final int KIND = 2;
    private static final int NONE = 3;
    private static final int STATE = 4;
    private static final int MISSING = 5;
    private static final int SIZE = 6;
    private static final int FINDINGS = 7;
    private static final int FINE = -1;

    private static final int MOST_FARMS = 8;
    private static final int SPOTS = 10;
    private static final int SHEETS = 4;
    private static final int MOST_NUMBERS = 40;
    private static final int MOST_BYTES = 120;
    private static final int MOST_YEAR = 99999;
    private static final int YEARS_AHEAD = 60;
    private static final int MOST_QUESTION = 99;
    private static final int MOST_LEFT = 200;
    private static final int MOST_CUT = 20;
    private static final int MOST_WEATHERS = 20;
    private static final int MOST_DRAWS = 12;
    private static final int ANY_LEAN = 9999;

    private static final int WET = 0;
    private static final int MICE = 1;
    private static final int RAIN = 2;
    private static final int WEATHERS = 3;
    private static final int MOST_WEATHER = 99;
    private static final int TURNING_RAIN = 60;

    private static final int FARM = 0;
    private static final int LAME = 1;
    private static final int PROUD = 2;
    private static final int SLY = 3;
    private static final int DEEP = 4;
    private static final int MACHINE = 5;
    private static final int OLD = 6;
    private static final int KINDS = 7;
    private static final int NO_KIND = -1;
    private static final int[] KIND_ABOVE = {NO_KIND, FARM, FARM, PROUD, SLY, FARM, LAME};

    private static final int OF_KIND = 0;
    private static final int OF_FIELD = 1;
    private static final int OF_HANDS = 2;
    private static final int OF_OPINION = 3;
    private static final int OF_HAD = 4;
    private static final int OF_REAPS = 5;
    private static final int OF_DAYS = 6;
    private static final int OF_TELLS = 7;
    private static final int CHANGEABLE = 5;
    private static final int[] LEAST_OF = {0, 0, 1, -9, 0};
    private static final int[] MOST_OF = {6, 999, 20, 9, 9999};
    private static final int FIRST_HANDS = 4;
    private static final int MOST_DAYS = 999;

    private static final int SLY_LEFT = 20;
    private static final int DEEP_LEFT = 5;
    // Between two of these no kind reaps otherwise on one day than on the next.
    private static final int[] REAPED_ALIKE_ABOVE = {SLY_LEFT, DEEP_LEFT, 0};

    private final Parish parish;
    private final Parish kept;
    private final Parish trial;
    private final Tape tape;
    private final TextReader reader;
    private final Sheet[] sheets;
    private final int[] findings;
    private boolean isKept;

    public SheafVotes() {
        parish = new Parish();
        kept = new Parish();
        trial = new Parish();
        tape = new Tape();
        reader = new TextReader(tape, trial);
        sheets = new Sheet[SHEETS];
        for (int s = 0; s < SHEETS; s++) {
            sheets[s] = new Sheet();
        }
        findings = new int[FINDINGS];
        isKept = false;
    }

    // ---- weather, farms

    public int weather(int what, int v) {
        if (!within(what, 0, WEATHERS - 1) || !within(v, 0, MOST_WEATHER)) {
            return finding(BEYOND);
        }
        int was = parish.weather[what];
        parish.weather[what] = v;
        return was;
    }

    public int farm(int kind, int field) {
        if (!Farm.mayBe(OF_KIND, kind) || !Farm.mayBe(OF_FIELD, field)) {
            return finding(BEYOND);
        }
        if (parish.isFull()) {
            return finding(FULL);
        }
        return parish.addFarm(kind, field);
    }

    public int of(int farm, int what) {
        if (!parish.hasFarm(farm) || !within(what, OF_KIND, OF_TELLS)) {
            return finding(BEYOND);
        }
        Farm asked = parish.rows[farm];
        int wet = parish.weather[WET];
        switch (what) {
            case OF_REAPS:
                return asked.reapsOf(asked.field, wet);
            case OF_DAYS:
                return asked.daysIn(wet);
            case OF_TELLS:
                return asked.tells();
            default:
                return asked.told(what);
        }
    }

    public int change(int farm, int what, int v) {
        if (!parish.hasFarm(farm) || !Farm.mayBe(what, v)) {
            return finding(BEYOND);
        }
        Farm changed = parish.rows[farm];
        int was = changed.told(what);
        changed.alter(what, v);
        return was;
    }

    public int left(int farm, int n) {
        if (!parish.hasFarm(farm) || !within(n, 0, MOST_DAYS)) {
            return finding(BEYOND);
        }
        return parish.rows[farm].leftBehind(n, parish.weather[WET]);
    }

    // ---- who is last, what it leans to

    public int last() {
        return parish.latest();
    }

    public int first() {
        return parish.earliest();
    }

    public int next() {
        return parish.latestBelow(parish.mostDays());
    }

    public int lean() {
        return parish.leanNow();
    }

    public int answer(int q) {
        if (!isQuestion(q)) {
            return finding(BEYOND);
        }
        return parish.answerTo(q);
    }

    // ---- years

    public int go(int n) {
        if (!within(n, 1, YEARS_AHEAD)) {
            return finding(BEYOND);
        }
        if (parish.year + n > MOST_YEAR) {
            return finding(STATE);
        }
        for (int i = 0; i < n; i++) {
            parish.passYear();
        }
        return parish.leanNow();
    }

    public int now(int what) {
        switch (what) {
            case 0:
                return parish.year;
            case 1:
                return parish.together(OF_HANDS);
            case 2:
                return parish.together(OF_OPINION);
            case 3:
                return parish.whoHadIt();
            case 4:
                return parish.together(OF_FIELD);
            case 5:
                return parish.mostDays();
            default:
                return finding(BEYOND);
        }
    }

    // ---- what will be (nothing changes)

    public int holder(int n) {
        if (!isAhead(n)) {
            return finding(BEYOND);
        }
        return trialBehind(n).latest();
    }

    public int ahead(int farm, int what, int n) {
        if (!parish.hasFarm(farm) || !within(what, OF_HANDS, OF_HAD) || !isAhead(n)) {
            return finding(BEYOND);
        }
        return trialBehind(n).rows[farm].told(what);
    }

    public int leans(int n) {
        if (!isAhead(n)) {
            return finding(BEYOND);
        }
        return trialBehind(n).leanNow();
    }

    public int when(int farm) {
        if (!parish.hasFarm(farm)) {
            return finding(BEYOND);
        }
        trial.becomes(parish);
        for (int years = 0; years <= YEARS_AHEAD; years++) {
            if (trial.isLatest(farm)) {
                return years;
            }
            trial.passYear();
        }
        return finding(NONE);
    }

    public int tie() {
        trial.becomes(parish);
        for (int years = 0; years <= YEARS_AHEAD; years++) {
            if (Integer.bitCount(trial.latest()) > 1) {
                return years;
            }
            trial.passYear();
        }
        return finding(NONE);
    }

    public int turns(int q) {
        if (!isQuestion(q)) {
            return finding(BEYOND);
        }
        int answerNow = parish.answerTo(q);
        trial.becomes(parish);
        for (int years = 1; years <= YEARS_AHEAD; years++) {
            trial.passYear();
            if (trial.answerTo(q) != answerNow) {
                return years;
            }
        }
        return finding(NONE);
    }

    // ---- hands

    public int mostHands(int farm) {
        if (!parish.hasFarm(farm)) {
            return finding(BEYOND);
        }
        trial.becomes(parish);
        for (int hands = MOST_OF[OF_HANDS]; hands >= LEAST_OF[OF_HANDS]; hands--) {
            trial.rows[farm].alter(OF_HANDS, hands);
            if (trial.isLatest(farm)) {
                return hands;
            }
        }
        return finding(NONE);
    }

    public int fewestHands(int farm) {
        if (!parish.hasFarm(farm)) {
            return finding(BEYOND);
        }
        trial.becomes(parish);
        for (int hands = LEAST_OF[OF_HANDS]; hands <= MOST_OF[OF_HANDS]; hands++) {
            trial.rows[farm].alter(OF_HANDS, hands);
            if (isIn(trial.earliest(), farm)) {
                return hands;
            }
        }
        return finding(NONE);
    }

    public int lend(int farm) {
        if (!parish.hasFarm(farm)) {
            return finding(BEYOND);
        }
        for (int lender = 0; lender < parish.farms; lender++) {
            for (int taker = 0; taker < parish.farms; taker++) {
                if (lender != taker && isLatestIfLent(farm, lender, taker)) {
                    return 8 * lender + taker;
                }
            }
        }
        return finding(NONE);
    }

    private boolean isLatestIfLent(int farm, int lender, int taker) {
        trial.becomes(parish);
        Farm giving = trial.rows[lender];
        Farm taking = trial.rows[taker];
        if (giving.hands <= LEAST_OF[OF_HANDS] || taking.hands >= MOST_OF[OF_HANDS]) {
            return false;
        }
        giving.alter(OF_HANDS, giving.hands - 1);
        taking.alter(OF_HANDS, taking.hands + 1);
        return trial.isLatest(farm);
    }

    public int kinds(int farm) {
        if (!parish.hasFarm(farm)) {
            return finding(BEYOND);
        }
        trial.becomes(parish);
        int set = 0;
        for (int kind = 0; kind < KINDS; kind++) {
            trial.rows[farm].alter(OF_KIND, kind);
            if (trial.isLatest(farm)) {
                set |= 1 << kind;
            }
        }
        return set;
    }

    public int wetFor(int farm) {
        if (!parish.hasFarm(farm)) {
            return finding(BEYOND);
        }
        trial.becomes(parish);
        for (int wet = 0; wet <= MOST_WEATHER; wet++) {
            trial.weather[WET] = wet;
            if (trial.isLatest(farm)) {
                return wet;
            }
        }
        return finding(NONE);
    }

    // ---- opinions

    public int tell(int q, int v) {
        if (!isQuestion(q) || !Farm.mayBe(OF_OPINION, v)) {
            return finding(BEYOND);
        }
        trial.becomes(parish);
        int latest = parish.latest();
        int best = -1;
        for (int set = 0; set < 1 << parish.farms; set++) {
            if (best >= 0 && Integer.bitCount(set) >= Integer.bitCount(best)) {
                continue;
            }
            tryOpinion(set, v);
            if (trial.leanBy(latest) >= q) {
                best = set;
            }
        }
        return best >= 0 ? best : finding(NONE);
    }

    private void tryOpinion(int set, int v) {
        for (int farm = 0; farm < parish.farms; farm++) {
            trial.rows[farm].opinion = isIn(set, farm) ? v : parish.rows[farm].opinion;
        }
    }

    public int voice() {
        if (parish.farms == 0) {
            return finding(NONE);
        }
        int latest = parish.latest();
        int lean = parish.leanBy(latest);
        trial.becomes(parish);
        int best = 0;
        int most = -1;
        for (int farm = 0; farm < parish.farms; farm++) {
            tryOpinion(1 << farm, 0);
            int otherwise = Math.abs(trial.leanBy(latest) - lean);
            if (otherwise > most) {
                most = otherwise;
                best = farm;
            }
        }
        return best;
    }

    public int miceFor(int q, int v) {
        if (!isQuestion(q) || !within(v, 0, 1)) {
            return finding(BEYOND);
        }
        trial.becomes(parish);
        for (int mice = 0; mice <= MOST_WEATHER; mice++) {
            trial.weather[MICE] = mice;
            if (trial.answerTo(q) == v) {
                return mice;
            }
        }
        return finding(NONE);
    }

    // ---- by turns

    public int wins(int left, int most) {
        if (!isCutting(left, most)) {
            return finding(BEYOND);
        }
        return winningCut(left, most) > 0 ? 1 : 0;
    }

    public int cut(int left, int most) {
        if (!isCutting(left, most)) {
            return finding(BEYOND);
        }
        int sheaves = winningCut(left, most);
        return sheaves > 0 ? sheaves : finding(NONE);
    }

    private static boolean isCutting(int left, int most) {
        return within(left, 1, MOST_LEFT) && within(most, 1, MOST_CUT);
    }

    /**
     * Who has 1 left must take the last one, and so loses; of each most + 1 more the other
     * one can always make up the rest of a round. So one wants to leave 1 and whole rounds.
     * 0: the other one has already left just that.
     */
    private static int winningCut(int left, int most) {
        return (left - 1) % (Math.max(1, most) + 1);
    }

    // ---- what it leaned to

    public int fits(int s, int farm) {
        int refusal = refusalOfFit(s, farm);
        if (refusal != FINE) {
            return finding(refusal);
        }
        int fitting = 0;
        for (int opinion = LEAST_OF[OF_OPINION]; opinion <= MOST_OF[OF_OPINION]; opinion++) {
            if (opinionFits(sheets[s], farm, opinion)) {
                fitting++;
            }
        }
        return fitting;
    }

    public int thinks(int s, int farm) {
        int refusal = refusalOfFit(s, farm);
        if (refusal != FINE) {
            return finding(refusal);
        }
        for (int opinion = LEAST_OF[OF_OPINION]; opinion <= MOST_OF[OF_OPINION]; opinion++) {
            if (opinionFits(sheets[s], farm, opinion)) {
                return opinion;
            }
        }
        return finding(NONE);
    }

    private int refusalOfFit(int s, int farm) {
        int refusal = refusalOfSheet(s);
        if (refusal != FINE) {
            return refusal;
        }
        return parish.hasFarm(farm) ? FINE : BEYOND;
    }

    private boolean opinionFits(Sheet sheet, int farm, int opinion) {
        trial.becomes(parish);
        trial.rows[farm].opinion = opinion;
        for (int years = 0; years < sheet.length; years++) {
            if (years > 0) {
                trial.passYear();
            }
            int told = sheet.numbers[years];
            if (told != ANY_LEAN && told != trial.leanNow()) {
                return false;
            }
        }
        return true;
    }

    // ---- weathers

    public int weathers(int n) {
        if (!within(n, 1, MOST_WEATHERS)) {
            return finding(BEYOND);
        }
        if (parish.year + n > MOST_YEAR) {
            return finding(STATE);
        }
        for (int i = 0; i < n; i++) {
            parish.weather[WET] = parish.draw() % 100;
            parish.weather[RAIN] = parish.draw() % 100;
            parish.passYear();
        }
        return parish.leanNow();
    }

    public long odds(int n, int what) {
        if (!within(n, 0, MOST_DRAWS) || !within(what, 0, 1)) {
            return finding(BEYOND);
        }
        // 60 of 100 is 3 of 5, whose powers have no divisor in common.
        long factor = what == 0 ? 3 : 5;
        long power = 1;
        for (int i = 0; i < n; i++) {
            power *= factor;
        }
        return power;
    }

    public int seed(int v) {
        int was = parish.z;
        parish.z = v;
        return was;
    }

    // ---- texts

    public int feed(int bytes, int n) {
        if (!within(n, 1, 4)) {
            return finding(BEYOND);
        }
        if (tape.size + n > MOST_BYTES) {
            return finding(FULL);
        }
        for (int i = n - 1; i >= 0; i--) {
            tape.add((byte) (bytes >>> 8 * i));
        }
        return tape.size;
    }

    public int wipe() {
        int had = tape.size;
        tape.size = 0;
        return had;
    }

    public int text() {
        trial.becomes(parish);
        int items = reader.readItems();
        if (items > 0) {
            parish.becomes(trial);
        }
        tape.size = 0;
        return items;
    }

    // ---- spots, sheets

    public int hold(int spot, int farm) {
        if (!within(spot, 0, SPOTS - 1) || farm != Parish.NOTHING && !parish.hasFarm(farm)) {
            return finding(BEYOND);
        }
        parish.spots[spot] = farm;
        return 1;
    }

    public int as(int spot, int kind) {
        if (!within(spot, 0, SPOTS - 1) || !Farm.mayBe(OF_KIND, kind)) {
            return finding(BEYOND);
        }
        int farm = parish.spots[spot];
        if (!parish.hasFarm(farm)) {
            return finding(MISSING);
        }
        return parish.rows[farm].isOfKind(kind) ? farm : finding(KIND);
    }

    public int sheet(int s, int bits, int n) {
        if (!within(s, 0, SHEETS - 1) || !Sheet.mayHave(bits)) {
            return finding(BEYOND);
        }
        if (n < 0) {
            return finding(SIZE);
        }
        if (n > MOST_NUMBERS) {
            return finding(BEYOND);
        }
        sheets[s].begin(bits, n);
        return sheets[s].length;
    }

    public int write(int s, int i, int v) {
        int refusal = refusalOfSheet(s);
        if (refusal != FINE) {
            return finding(refusal);
        }
        if (!within(i, 0, sheets[s].length - 1)) {
            return finding(BEYOND);
        }
        sheets[s].put(i, v);
        return 1;
    }

    public int copy(int s, int from, int t, int to, int n) {
        if (!within(s, 0, SHEETS - 1) || !within(t, 0, SHEETS - 1)) {
            return finding(BEYOND);
        }
        Sheet source = sheets[s];
        Sheet target = sheets[t];
        if (source.isMissing() || target.isMissing()) {
            return finding(MISSING);
        }
        if (source.bits != target.bits) {
            return finding(KIND);
        }
        if (!source.hasRow(from, n) || !target.hasRow(to, n)) {
            return finding(BEYOND);
        }
        System.arraycopy(source.numbers, from, target.numbers, to, n);
        return n;
    }

    public int load(int s) {
        int refusal = refusalOfSheet(s);
        if (refusal != FINE) {
            return finding(refusal);
        }
        int came = 0;
        int most = Math.min(sheets[s].length, parish.farms);
        while (came < most && Farm.mayBe(OF_FIELD, sheets[s].numbers[came])) {
            parish.rows[came].alter(OF_FIELD, sheets[s].numbers[came]);
            came++;
        }
        return came;
    }

    public int judge(int s) {
        int refusal = refusalOfSheet(s);
        if (refusal != FINE) {
            return finding(refusal);
        }
        for (int i = 0; i < sheets[s].length; i++) {
            if (!parish.hasFarm(i) || parish.rows[i].daysIn(parish.weather[WET]) != sheets[s].numbers[i]) {
                return 1 + i;
            }
        }
        return 0;
    }

    // ---- images

    public int image() {
        kept.becomes(parish);
        isKept = true;
        return 1;
    }

    public int undo() {
        if (!isKept) {
            return finding(NONE);
        }
        parish.becomes(kept);
        return parish.year;
    }

    public int tear() {
        int was = isKept ? 1 : 0;
        isKept = false;
        return was;
    }

    public int count(int what) {
        switch (what) {
            case 0:
                return parish.year;
            case 1:
                return parish.farms;
            case 2:
                return Integer.bitCount(parish.latest());
            case 3:
                return parish.together(OF_HANDS);
            case 4:
                return parish.together(OF_OPINION);
            case 5:
                return tape.size;
            case 6:
                return parish.z;
            case 7:
                return parish.spotsHeld();
            default:
                return finding(BEYOND);
        }
    }

    public int status(int which) {
        if (!within(which, -1, FINDINGS - 1)) {
            return finding(BEYOND);
        }
        if (which >= 0) {
            return findings[which];
        }
        int all = 0;
        for (int i = 0; i < FINDINGS; i++) {
            all += findings[i];
        }
        return all;
    }

    // ---- what several calls ask

    /** Counted where it is told, not by its number: seed() and count() may answer the same number without a finding. */
    private int finding(int which) {
        if (within(which, 0, FINDINGS - 1)) {
            findings[which]++;
        }
        return LOW - which;
    }

    private int refusalOfSheet(int s) {
        if (!within(s, 0, SHEETS - 1)) {
            return BEYOND;
        }
        return sheets[s].isMissing() ? MISSING : FINE;
    }

    private Parish trialBehind(int years) {
        trial.becomes(parish);
        for (int i = 0; i < years; i++) {
            trial.passYear();
        }
        return trial;
    }

    private static boolean isQuestion(int q) {
        return within(q, -MOST_QUESTION, MOST_QUESTION);
    }

    private static boolean isAhead(int years) {
        return within(years, 0, YEARS_AHEAD);
    }

    private static boolean isIn(int set, int i) {
        return (set >> i & 1) == 1;
    }

    private static boolean within(int v, int least, int most) {
        return v >= least && v <= most;
    }

    /** One farm; what it reaps and tells is by its kind. */
    private static final class Farm {
        private static final int NOT_RECKONED = -1;

        private int kind;
        private int field;
        private int hands;
        private int opinion;
        private int had;
        // Days are asked far more often than what makes them changes.
        private int reckonedWet;
        private int reckonedDays;

        Farm() {
            kind = FARM;
            hands = FIRST_HANDS;
            reckonedWet = NOT_RECKONED;
        }

        static boolean mayBe(int what, int v) {
            return within(what, 0, CHANGEABLE - 1) && within(v, LEAST_OF[what], MOST_OF[what]);
        }

        void begin(int newKind, int newField) {
            kind = newKind;
            field = newField;
            hands = FIRST_HANDS;
            opinion = 0;
            had = 0;
            reckonedWet = NOT_RECKONED;
        }

        void becomes(Farm other) {
            kind = other.kind;
            field = other.field;
            hands = other.hands;
            opinion = other.opinion;
            had = other.had;
            reckonedWet = other.reckonedWet;
            reckonedDays = other.reckonedDays;
        }

        int told(int what) {
            switch (what) {
                case OF_KIND:
                    return kind;
                case OF_FIELD:
                    return field;
                case OF_HANDS:
                    return hands;
                case OF_OPINION:
                    return opinion;
                default:
                    return had;
            }
        }

        void alter(int what, int v) {
            switch (what) {
                case OF_KIND:
                    kind = v;
                    break;
                case OF_FIELD:
                    field = v;
                    break;
                case OF_HANDS:
                    hands = v;
                    break;
                case OF_OPINION:
                    opinion = v;
                    break;
                default:
                    had = v;
                    break;
            }
            reckonedWet = NOT_RECKONED;
        }

        boolean isOfKind(int asked) {
            int own = kind;
            for (int i = 0; i < KINDS && own != NO_KIND; i++) {
                if (own == asked) {
                    return true;
                }
                own = KIND_ABOVE[own];
            }
            return false;
        }

        int reapsOf(int sheaves, int wet) {
            int asFarm = Math.max(1, 2 * hands - wet / 10);
            int asLame = Math.max(1, asFarm / 2);
            int asProud = asFarm + 3;
            int asSly = sheaves <= SLY_LEFT ? asProud / 2 : asProud;
            switch (kind) {
                case LAME:
                    return asLame;
                case OLD:
                    return Math.max(1, asLame - 1);
                case PROUD:
                    return asProud;
                case SLY:
                    return asSly;
                case DEEP:
                    return sheaves <= DEEP_LEFT ? 1 : asSly;
                case MACHINE:
                    return wet < 50 ? 30 : 2;
                default:
                    return asFarm;
            }
        }

        int daysIn(int wet) {
            if (reckonedWet == wet) {
                return reckonedDays;
            }
            int sheaves = field;
            int days = 0;
            for (int floor : REAPED_ALIKE_ABOVE) {
                int reaps = reapsOf(sheaves, wet);
                int alike = daysDownTo(floor, sheaves, reaps);
                sheaves -= alike * reaps;
                days += alike;
            }
            reckonedDays = days;
            reckonedWet = wet;
            return days;
        }

        int leftBehind(int days, int wet) {
            int sheaves = field;
            int daysLeft = days;
            for (int floor : REAPED_ALIKE_ABOVE) {
                int reaps = reapsOf(sheaves, wet);
                int alike = Math.min(daysLeft, daysDownTo(floor, sheaves, reaps));
                sheaves -= alike * reaps;
                daysLeft -= alike;
            }
            return Math.max(0, sheaves);
        }

        private static int daysDownTo(int floor, int sheaves, int reaps) {
            if (sheaves <= floor || reaps < 1) {
                return 0;
            }
            return (sheaves - floor + reaps - 1) / reaps;
        }

        int tells() {
            switch (kind) {
                case LAME:
                    return 2;
                case OLD:
                    return 4;
                case PROUD:
                    return 3;
                case SLY:
                    return -3;
                case DEEP:
                    return -3 + Math.min(9, had);
                case MACHINE:
                    return 0;
                default:
                    return 1;
            }
        }

        void hasTheSheaf() {
            had = Math.min(MOST_OF[OF_HAD], had + 1);
            if (hands < MOST_OF[OF_HANDS]) {
                alter(OF_HANDS, hands + 1);
            }
        }

        void losesHand() {
            if (hands > LEAST_OF[OF_HANDS]) {
                alter(OF_HANDS, hands - 1);
            }
        }

        void heeds(int lean) {
            if (lean > 0) {
                opinion = Math.min(MOST_OF[OF_OPINION], opinion + 1);
            } else if (lean < 0) {
                opinion = Math.max(LEAST_OF[OF_OPINION], opinion - 1);
            }
        }
    }

    /** All that an image keeps. Who asks for one of its farms asks hasFarm() first. */
    private static final class Parish {
        static final int NOTHING = -1;
        // Far above any days: a field of 999 sheaves takes 999 at most.
        private static final int UNBOUND = 1000000;

        private final int[] weather;
        private final Farm[] rows;
        private final int[] spots;
        private int farms;
        private int year;
        private int z;

        Parish() {
            weather = new int[WEATHERS];
            rows = new Farm[MOST_FARMS];
            for (int i = 0; i < MOST_FARMS; i++) {
                rows[i] = new Farm();
            }
            spots = new int[SPOTS];
            for (int i = 0; i < SPOTS; i++) {
                spots[i] = NOTHING;
            }
            z = 1;
        }

        void becomes(Parish other) {
            System.arraycopy(other.weather, 0, weather, 0, WEATHERS);
            System.arraycopy(other.spots, 0, spots, 0, SPOTS);
            for (int i = 0; i < other.farms; i++) {
                rows[i].becomes(other.rows[i]);
            }
            farms = other.farms;
            year = other.year;
            z = other.z;
        }

        boolean hasFarm(int farm) {
            return within(farm, 0, farms - 1);
        }

        boolean isFull() {
            return farms >= MOST_FARMS;
        }

        /** Only where isFull() doesn't say so. */
        int addFarm(int kind, int field) {
            int number = farms;
            rows[number].begin(kind, field);
            farms++;
            return number;
        }

        int mostDays() {
            int most = 0;
            for (int i = 0; i < farms; i++) {
                most = Math.max(most, rows[i].daysIn(weather[WET]));
            }
            return most;
        }

        int latest() {
            return latestBelow(UNBOUND);
        }

        /** Of the farms with fewer days than so many those with most. */
        int latestBelow(int bound) {
            int set = 0;
            int most = 0;
            for (int i = 0; i < farms; i++) {
                int days = rows[i].daysIn(weather[WET]);
                if (days >= bound || days < most) {
                    continue;
                }
                set = days > most ? 1 << i : set | 1 << i;
                most = days;
            }
            return set;
        }

        int earliest() {
            int set = 0;
            int fewest = UNBOUND;
            for (int i = 0; i < farms; i++) {
                int days = rows[i].daysIn(weather[WET]);
                if (days > fewest) {
                    continue;
                }
                set = days < fewest ? 1 << i : set | 1 << i;
                fewest = days;
            }
            return set;
        }

        boolean isLatest(int farm) {
            return isIn(latestBelow(UNBOUND), farm);
        }

        int leanNow() {
            return leanBy(latestBelow(UNBOUND));
        }

        int leanBy(int latestSet) {
            int lean = 0;
            for (int i = 0; i < farms; i++) {
                int times = isIn(latestSet, i) ? 3 : 1;
                lean += times * rows[i].opinion * rows[i].tells();
            }
            int size = Math.max(0, Math.abs(lean) - weather[MICE] / 10);
            int nearer = lean < 0 ? -size : size;
            return weather[RAIN] >= TURNING_RAIN ? -nearer : nearer;
        }

        int answerTo(int q) {
            return leanBy(latestBelow(UNBOUND)) >= q ? 1 : 0;
        }

        void passYear() {
            int latestSet = latestBelow(UNBOUND);
            int earliestSet = earliest();
            int lean = leanBy(latestSet);
            for (int i = 0; i < farms; i++) {
                Farm farm = rows[i];
                if (isIn(latestSet, i)) {
                    farm.hasTheSheaf();
                    continue;
                }
                if (isIn(earliestSet, i)) {
                    farm.losesHand();
                }
                farm.heeds(lean);
            }
            year = Math.min(MOST_YEAR, year + 1);
        }

        int together(int what) {
            int sum = 0;
            for (int i = 0; i < farms; i++) {
                sum += rows[i].told(what);
            }
            return sum;
        }

        int whoHadIt() {
            int set = 0;
            for (int i = 0; i < farms; i++) {
                if (rows[i].had > 0) {
                    set |= 1 << i;
                }
            }
            return set;
        }

        int spotsHeld() {
            int held = 0;
            for (int spot : spots) {
                if (spot != NOTHING) {
                    held++;
                }
            }
            return held;
        }

        int draw() {
            z = z * 1103515245 + 12345;
            return z >>> 8;
        }
    }

    /** A row of numbers; kept as ints, cut to their bits where they are put. */
    private static final class Sheet {
        private final int[] numbers;
        private int bits;
        private int length;

        Sheet() {
            numbers = new int[MOST_NUMBERS];
            bits = 0;
            length = 0;
        }

        static boolean mayHave(int bits) {
            return bits == 0 || bits == 8 || bits == 16 || bits == 32;
        }

        void begin(int newBits, int n) {
            bits = newBits;
            length = newBits == 0 ? 0 : n;
            for (int i = 0; i < MOST_NUMBERS; i++) {
                numbers[i] = 0;
            }
        }

        boolean isMissing() {
            return bits == 0;
        }

        void put(int i, int v) {
            if (bits == 8) {
                numbers[i] = (byte) v;
            } else if (bits == 16) {
                numbers[i] = (short) v;
            } else {
                numbers[i] = v;
            }
        }

        boolean hasRow(int from, int n) {
            return from >= 0 && n >= 0 && n <= length - from;
        }
    }

    /** The bytes that were fed, and the token of them that is looked at. */
    private static final class Tape {
        static final int WORD = 0;
        static final int NUMBER = 1;
        static final int SEMICOLON = 2;
        static final int MINUS = 3;
        static final int OTHER = 4;
        static final int END = 5;
        // A longer number is as wrong as this one, and can't wrap around.
        private static final int TOO_MUCH = 1000;

        private final byte[] bytes;
        private int size;
        private int begin;
        private int end;
        private int sort;
        private int value;

        Tape() {
            bytes = new byte[MOST_BYTES];
            size = 0;
            begin = 0;
            end = 0;
            sort = END;
            value = 0;
        }

        void add(byte b) {
            if (size < MOST_BYTES) {
                bytes[size] = b;
                size++;
            }
        }

        void lookFromBegin() {
            end = 0;
            advance();
        }

        void advance() {
            begin = end;
            while (begin < size && bytes[begin] == ' ') {
                begin++;
            }
            end = begin;
            value = 0;
            if (begin >= size) {
                sort = END;
            } else if (isLetter(bytes[begin])) {
                sort = WORD;
                while (end < size && isLetter(bytes[end])) {
                    end++;
                }
            } else if (isDigit(bytes[begin])) {
                sort = NUMBER;
                while (end < size && isDigit(bytes[end])) {
                    value = Math.min(TOO_MUCH, value * 10 + bytes[end] - '0');
                    end++;
                }
            } else {
                sort = sortOfSign(bytes[begin]);
                end++;
            }
        }

        private static int sortOfSign(byte b) {
            if (b == ';') {
                return SEMICOLON;
            }
            return b == '-' ? MINUS : OTHER;
        }

        private static boolean isLetter(byte b) {
            return b >= 'a' && b <= 'z';
        }

        private static boolean isDigit(byte b) {
            return b >= '0' && b <= '9';
        }

        boolean isNumber(int least, int most) {
            return sort == NUMBER && within(value, least, most);
        }

        boolean isWord(String word) {
            if (sort != WORD || end - begin != word.length()) {
                return false;
            }
            for (int i = 0; i < word.length(); i++) {
                if (bytes[begin + i] != word.charAt(i)) {
                    return false;
                }
            }
            return true;
        }
    }

    /** Reads a text into a parish that is only tried, since a fault may come late. */
    private static final class TextReader {
        private final Tape tape;
        private final Parish parish;

        TextReader(Tape tape, Parish parish) {
            this.tape = tape;
            this.parish = parish;
        }

        /** How many items, or -1 less the fault: always the begin of the token that is looked at. */
        int readItems() {
            tape.lookFromBegin();
            for (int items = 1; items <= MOST_BYTES; items++) {
                if (!readsItem()) {
                    break;
                }
                if (tape.sort == Tape.END) {
                    return items;
                }
                if (tape.sort != Tape.SEMICOLON) {
                    break;
                }
                tape.advance();
            }
            return -1 - tape.begin;
        }

        private boolean readsItem() {
            for (int kind = 0; kind < KINDS; kind++) {
                if (tape.isWord(wordOfKind(kind))) {
                    return !parish.isFull() && readsFarm(kind);
                }
            }
            for (int what = 0; what < WEATHERS; what++) {
                if (tape.isWord(wordOfWeather(what))) {
                    return readsWeather(what);
                }
            }
            return false;
        }

        private boolean readsWeather(int what) {
            tape.advance();
            if (!tape.isNumber(0, MOST_WEATHER)) {
                return false;
            }
            parish.weather[what] = tape.value;
            tape.advance();
            return true;
        }

        private boolean readsFarm(int kind) {
            tape.advance();
            if (!tape.isNumber(LEAST_OF[OF_FIELD], MOST_OF[OF_FIELD])) {
                return false;
            }
            Farm farm = parish.rows[parish.addFarm(kind, tape.value)];
            tape.advance();
            return readsHands(farm) && readsOpinion(farm);
        }

        private boolean readsHands(Farm farm) {
            if (!tape.isWord("hands")) {
                return true;
            }
            tape.advance();
            if (!tape.isNumber(LEAST_OF[OF_HANDS], MOST_OF[OF_HANDS])) {
                return false;
            }
            farm.alter(OF_HANDS, tape.value);
            tape.advance();
            return true;
        }

        private boolean readsOpinion(Farm farm) {
            if (!tape.isWord("thinks")) {
                return true;
            }
            tape.advance();
            boolean isBelow = tape.sort == Tape.MINUS;
            if (isBelow) {
                tape.advance();
            }
            if (!tape.isNumber(0, MOST_OF[OF_OPINION])) {
                return false;
            }
            farm.alter(OF_OPINION, isBelow ? -tape.value : tape.value);
            tape.advance();
            return true;
        }

        private static String wordOfKind(int kind) {
            switch (kind) {
                case FARM:
                    return "farm";
                case LAME:
                    return "lame";
                case PROUD:
                    return "proud";
                case SLY:
                    return "sly";
                case DEEP:
                    return "deep";
                case MACHINE:
                    return "machine";
                default:
                    return "old";
            }
        }

        private static String wordOfWeather(int what) {
            switch (what) {
                case WET:
                    return "wet";
                case MICE:
                    return "mice";
                default:
                    return "rain";
            }
        }
    }
}
