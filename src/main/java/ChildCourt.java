import java.util.Arrays;

/**
 * A court of children that tries parents on Saturdays: told in a text, held by orders of cases,
 * and asked what would be, had the order, the sweets, the strikes, the law or a kind been another.
 * Every refusal and every fault is a number that the call answers; nothing is ever thrown.
 */
public final class ChildCourt {
    public static final int UNKNOWN = -1, OUTSIDE = -2, STATE = -3, FULL = -4, NONE = -9;
    public static final long LOST = Long.MIN_VALUE;

    private static final int NO_FAULT = 0, NULL = 1, CAST = 2, INDEX = 3, SIZE = 4;
    private static final int FAULT_BASE = -10, TEXT_FAULT_BASE = -100;

    private static final int CHILD = 0, HUNGRY = 1, SWEET = 2, KINDS = 3;
    private static final int ACQUITTED = 0, GUILTY = 1, NOT_REACHED = 2;
    private static final int MOST_JURORS = 5, MOST_CASES = 5, MOST_READINGS = 8;
    private static final int DEEDS = 6, LAWS = 64, MOST_ORDERS = 120;
    private static final int LEAST_MINUTES = 5, MOST_MINUTES = 60, HUNGER_BY_AGE = 5;

    private static final int SHEETS = 4, MOST_CELLS = 60;
    private static final int BYTES = 0, SHORTS = 1, INTS = 2;

    private static final int OF_SENTENCED = 0, OF_LAST_END = 1, OF_CASES = 10;
    private static final int WORTH_BASE = 100;
    // Less than the WEIGHTS of all cases together, taken off 0.
    private static final int BELOW_ALL = -1000;

    private static final int CHILD_BODY = 1, HUNGRY_BODY = 2, SWEET_BODY = 3;
    private static final int LENT_BODY = 4, OWN_BODY = 5;
    private static final int HUNGRY_MORE = 100, SWEET_HUSHED = 70, TRACE_FACTOR = 31;

    private final Sheet[] sheets = new Sheet[SHEETS];
    private final Text text = new Text();
    private final Court now = new Court();
    private final Sitting trial = new Sitting(now);
    private final int[] bestOrder = new int[MOST_CASES];
    private int traced;
    private int latestFault;

    public ChildCourt() {
        for (int k = 0; k < SHEETS; k++) {
            sheets[k] = new Sheet();
        }
    }

    // ---- 1 the court

    public int court(int sheet, int lane, int i, int n) {
        latestFault = NO_FAULT;
        if (!isSheet(sheet)) {
            return UNKNOWN;
        }
        if (!isLane(lane)) {
            return OUTSIDE;
        }
        Sheet from = sheets[sheet];
        int came = from.faultOfCells(lane, i, n);
        if (came != NO_FAULT) {
            return faulty(came);
        }
        int wrongPlace = text.firstFault(from, i, n);
        if (wrongPlace != NONE) {
            return TEXT_FAULT_BASE - wrongPlace;
        }
        now.makeAnew(text);
        return now.cases;
    }

    public int ofJuror(int j, int what) {
        if (!now.isJuror(j)) {
            return UNKNOWN;
        }
        switch (what) {
            case 0: return now.kind[j];
            case 1: return now.age[j];
            case 2: return bitOf(now.sweets, j);
            case 3: return bitOf(now.struck, j);
            default: return OUTSIDE;
        }
    }

    public int ofCase(int c, int what) {
        if (!now.isCase(c)) {
            return UNKNOWN;
        }
        switch (what) {
            case 0: return now.deed[c];
            case 1: return now.takes[c];
            case 2: return now.weight[c];
            default: return OUTSIDE;
        }
    }

    public int chalk(int set) {
        if (set < 0 || set >= LAWS) {
            return OUTSIDE;
        }
        if (!now.stands()) {
            return STATE;
        }
        int was = now.law;
        now.law = set;
        return was;
    }

    public int treat(int j, boolean is) {
        if (!now.isJuror(j)) {
            return UNKNOWN;
        }
        int was = now.sweets;
        now.sweets = withBit(was, j, is);
        return now.sweets == was ? 0 : 1;
    }

    public int strike(int j, boolean is) {
        if (!now.isJuror(j)) {
            return UNKNOWN;
        }
        int was = now.struck;
        now.struck = withBit(was, j, is);
        return now.struck == was ? 0 : 1;
    }

    public int minutes(int v) {
        if (v < LEAST_MINUTES || v > MOST_MINUTES) {
            return OUTSIDE;
        }
        if (!now.stands()) {
            return STATE;
        }
        int was = now.sits;
        now.sits = v;
        return was;
    }

    // ---- 2 sittings

    public int sitting(int sheet, int lane, int i, int n, int what) {
        latestFault = NO_FAULT;
        if (!isSheet(sheet)) {
            return UNKNOWN;
        }
        boolean isOfCase = what >= OF_CASES && what < OF_CASES + MOST_CASES;
        if (!isLane(lane) || !isOfCase && what != OF_SENTENCED && what != OF_LAST_END) {
            return OUTSIDE;
        }
        int refusal = takeOrder(sheets[sheet], lane, i, n);
        if (refusal != 0) {
            return refusal;
        }
        trial.hold();
        if (isOfCase) {
            return trial.verdict[what - OF_CASES];
        }
        return what == OF_SENTENCED ? trial.sentenced : trial.end;
    }

    public int votes(int c, int minute) {
        if (!now.isCase(c)) {
            return UNKNOWN;
        }
        if (minute < 0 || minute > MOST_MINUTES) {
            return OUTSIDE;
        }
        trial.prepare();
        return trial.guiltyVotes(now.deed[c], minute);
    }

    // ---- 3 orders, bribes, strikes

    public int most(int k) {
        return byOrderOfHighest(k, 1);
    }

    public int delay(int k) {
        return byOrderOfHighest(k, -1);
    }

    public int bribe(int c, int sheet, int lane, int i, int n) {
        latestFault = NO_FAULT;
        if (!now.isCase(c) || !isSheet(sheet)) {
            return UNKNOWN;
        }
        if (!isLane(lane)) {
            return OUTSIDE;
        }
        int refusal = takeOrder(sheets[sheet], lane, i, n);
        return refusal != 0 ? refusal : fewestSweets(c);
    }

    public int strikes(int what) {
        if (what < 0 || what > 1) {
            return OUTSIDE;
        }
        if (!now.stands()) {
            return STATE;
        }
        prepareByNumbers();
        int his = NONE;
        int least = 0;
        for (int j = 0; j < now.jurors; j++) {
            if (bitOf(now.struck, j) == 0) {
                int then = mostByCourtsStrike(withBit(now.struck, j, true));
                if (his == NONE || then < least) {
                    his = j;
                    least = then;
                }
            }
        }
        if (what == 1) {
            return his;
        }
        return his == NONE ? sentencedIfStruck(now.struck) : least;
    }

    public int worth(int j) {
        if (!now.isJuror(j)) {
            return UNKNOWN;
        }
        prepareByNumbers();
        int with = sentencedIfStruck(now.struck);
        int without = sentencedIfStruck(withBit(now.struck, j, true));
        return with - without + WORTH_BASE;
    }

    // ---- 4 what was seen

    public int reading(int c, int how) {
        if (!now.isCase(c)) {
            return UNKNOWN;
        }
        if (how < ACQUITTED || how > NOT_REACHED) {
            return OUTSIDE;
        }
        if (now.readings >= MOST_READINGS) {
            return FULL;
        }
        int number = now.readings;
        now.readCase[number] = c;
        now.readHow[number] = how;
        now.readings = number + 1;
        return number;
    }

    public int back(int k) {
        if (k < 0 || k > now.readings) {
            return OUTSIDE;
        }
        now.readings -= k;
        return now.readings;
    }

    public int codes(int what) {
        if (what < 0 || what > 2) {
            return OUTSIDE;
        }
        if (!now.stands()) {
            return STATE;
        }
        prepareByNumbers();
        int count = 0;
        int least = NONE;
        int fewest = NONE;
        for (int law = 0; law < LAWS; law++) {
            trial.law = law;
            if (isAsRead()) {
                count++;
                least = least == NONE ? law : least;
                fewest = fewest == NONE || hasFewer(law, fewest) ? law : fewest;
            }
        }
        if (what == 0) {
            return count;
        }
        return what == 1 ? least : fewest;
    }

    public int kinds(int j) {
        if (!now.isJuror(j)) {
            return UNKNOWN;
        }
        prepareByNumbers();
        int set = 0;
        for (int kind = 0; kind < KINDS; kind++) {
            trial.kind[j] = kind;
            set = withBit(set, kind, isAsRead());
        }
        return set;
    }

    public int treated() {
        if (!now.stands()) {
            return STATE;
        }
        prepareByNumbers();
        int set = 0;
        for (int j = 0; j < now.jurors; j++) {
            trial.sweets = withBit(now.sweets, j, true);
            set = withBit(set, j, isAsRead());
        }
        return set;
    }

    public long odds(int c, int which) {
        if (!now.isCase(c) || which < 0 || which > 1) {
            return LOST;
        }
        prepareByNumbers();
        int lower = 1 << now.jurors;
        int upper = 0;
        for (int struck = 0; struck < lower; struck++) {
            trial.struck = struck;
            trial.hold();
            upper += trial.verdict[c] == GUILTY ? 1 : 0;
        }
        // The lower number is a power of two, so halving alone brings it to least terms.
        while (lower > 1 && upper % 2 == 0) {
            upper /= 2;
            lower /= 2;
        }
        return which == 0 ? upper : lower;
    }

    // ---- 5 sheets, parts

    public int sheet(int k, int lane, int n) {
        latestFault = NO_FAULT;
        if (!isSheet(k)) {
            return UNKNOWN;
        }
        if (!isLane(lane) || n > MOST_CELLS) {
            return OUTSIDE;
        }
        if (n < 0) {
            return faulty(SIZE);
        }
        sheets[k].renew(lane, n);
        return 1;
    }

    public int lose(int k) {
        if (!isSheet(k)) {
            return UNKNOWN;
        }
        boolean had = sheets[k].has;
        sheets[k].has = false;
        return had ? 1 : 0;
    }

    public int put(int k, int i, int v) {
        latestFault = NO_FAULT;
        if (!isSheet(k)) {
            return UNKNOWN;
        }
        Sheet to = sheets[k];
        if (!to.has) {
            return faulty(NULL);
        }
        if (!to.isPlace(i)) {
            return faulty(INDEX);
        }
        to.cells[i] = to.cut(v);
        return 1;
    }

    public long cell(int k, int i, int lane) {
        latestFault = NO_FAULT;
        if (!isSheet(k) || !isLane(lane)) {
            return LOST;
        }
        Sheet from = sheets[k];
        int came = from.faultOfLane(lane);
        if (came == NO_FAULT && !from.isPlace(i)) {
            came = INDEX;
        }
        latestFault = came;
        return came == NO_FAULT ? from.cells[i] : LOST;
    }

    public int copy(int k, int i, int other, int j, int n) {
        latestFault = NO_FAULT;
        if (!isSheet(k) || !isSheet(other)) {
            return UNKNOWN;
        }
        Sheet from = sheets[k];
        Sheet to = sheets[other];
        if (!from.has || !to.has) {
            return faulty(NULL);
        }
        if (from.lane != to.lane) {
            return faulty(CAST);
        }
        if (!from.hasCells(i, n) || !to.hasCells(j, n)) {
            return faulty(INDEX);
        }
        System.arraycopy(from.cells, i, to.cells, j, n);
        return n;
    }

    public int tell(int j) {
        if (!now.isJuror(j)) {
            return UNKNOWN;
        }
        switch (now.kind[j]) {
            case SWEET: return sweetTelling(j);
            case HUNGRY: return hungryTelling(j);
            default: return childTelling(j);
        }
    }

    public int hush(int j) {
        if (!now.isJuror(j)) {
            return UNKNOWN;
        }
        if (now.kind[j] == SWEET) {
            leaveInTrace(OWN_BODY);
            return SWEET_HUSHED;
        }
        leaveInTrace(LENT_BODY);
        return j;
    }

    public int as(int j, int kind) {
        latestFault = NO_FAULT;
        if (!now.isJuror(j)) {
            return UNKNOWN;
        }
        if (kind < 0 || kind >= KINDS) {
            return OUTSIDE;
        }
        // Each kind is all the kinds below it, too.
        return now.kind[j] < kind ? faulty(CAST) : 1;
    }

    public int trace() {
        return traced;
    }

    public int fault() {
        return latestFault;
    }

    public int many(int what) {
        switch (what) {
            case 0: return now.cases;
            case 1: return now.jurors;
            case 2: return now.sits;
            case 3: return now.law;
            case 4: return now.readings;
            default: return OUTSIDE;
        }
    }

    // ---- what the calls share

    private static boolean isSheet(int k) {
        return k >= 0 && k < SHEETS;
    }

    private static boolean isLane(int lane) {
        return lane >= BYTES && lane <= INTS;
    }

    private static int bitOf(int set, int k) {
        return set >> k & 1;
    }

    private static int withBit(int set, int k, boolean is) {
        return is ? set | 1 << k : set & ~(1 << k);
    }

    private static boolean hasFewer(int set, int other) {
        return Integer.bitCount(set) < Integer.bitCount(other);
    }

    private int faulty(int which) {
        latestFault = which;
        return FAULT_BASE - which;
    }

    /** 0, and the trial has the ORDER that the cells tell; else what the call answers. */
    private int takeOrder(Sheet from, int lane, int i, int n) {
        int came = from.faultOfCells(lane, i, n);
        if (came != NO_FAULT) {
            return faulty(came);
        }
        if (!now.stands()) {
            return STATE;
        }
        trial.prepare();
        int seen = 0;
        for (int p = 0; p < n; p++) {
            int c = from.cells[i + p];
            if (!now.isCase(c) || bitOf(seen, c) == 1) {
                return UNKNOWN;
            }
            seen = withBit(seen, c, true);
            trial.addToOrder(c);
        }
        return 0;
    }

    private void prepareByNumbers() {
        trial.prepare();
        for (int c = 0; c < now.cases; c++) {
            trial.addToOrder(c);
        }
    }

    private int byOrderOfHighest(int k, int sign) {
        if (k < -1) {
            return UNKNOWN;
        }
        if (!now.stands()) {
            return STATE;
        }
        if (k >= now.cases) {
            return NONE;
        }
        int highest = findOrderOfHighest(sign);
        return k < 0 ? sign * highest : bestOrder[k];
    }

    private int findOrderOfHighest(int sign) {
        prepareByNumbers();
        int highest = BELOW_ALL;
        boolean isMore = true;
        // Orders come as rows do, so only a higher one may take the place of an earlier one.
        for (int tried = 0; isMore && tried < MOST_ORDERS; tried++) {
            trial.hold();
            if (sign * trial.sentenced > highest) {
                highest = sign * trial.sentenced;
                System.arraycopy(trial.order, 0, bestOrder, 0, MOST_CASES);
            }
            isMore = trial.goToNextOrder();
        }
        return highest;
    }

    private int fewestSweets(int c) {
        int fewest = NONE;
        for (int set = 0; set < 1 << now.jurors; set++) {
            boolean haveNone = (set & now.sweets) == 0;
            if (haveNone && (fewest == NONE || hasFewer(set, fewest))) {
                trial.sweets = now.sweets | set;
                trial.hold();
                fewest = trial.verdict[c] == GUILTY ? fewest : set;
            }
        }
        return fewest;
    }

    private int mostByCourtsStrike(int struck) {
        int most = NONE;
        for (int j = 0; j < now.jurors; j++) {
            if (bitOf(struck, j) == 0) {
                most = Math.max(most, sentencedIfStruck(withBit(struck, j, true)));
            }
        }
        return most == NONE ? sentencedIfStruck(struck) : most;
    }

    private int sentencedIfStruck(int struck) {
        trial.struck = struck;
        trial.hold();
        return trial.sentenced;
    }

    private boolean isAsRead() {
        trial.hold();
        for (int r = 0; r < now.readings; r++) {
            if (trial.verdict[now.readCase[r]] != now.readHow[r]) {
                return false;
            }
        }
        return true;
    }

    private void leaveInTrace(int body) {
        traced = TRACE_FACTOR * traced + body;
    }

    private int childTelling(int j) {
        leaveInTrace(CHILD_BODY);
        return now.age[j];
    }

    private int hungryTelling(int j) {
        leaveInTrace(HUNGRY_BODY);
        return childTelling(j) + HUNGRY_MORE;
    }

    private int sweetTelling(int j) {
        leaveInTrace(SWEET_BODY);
        return hungryTelling(j) + childTelling(j);
    }

    /** A SHEET: a row of a LANE, or nothing. Its cells are made but once, and used again. */
    private static final class Sheet {
        private final int[] cells = new int[MOST_CELLS];
        private boolean has;
        private int lane;
        private int length;

        /** n is 0 .. MOST_CELLS, as the caller has tested. */
        void renew(int newLane, int n) {
            Arrays.fill(cells, 0);
            has = true;
            lane = newLane;
            length = n;
        }

        boolean isPlace(int i) {
            return i >= 0 && i < length;
        }

        /** Told by differences, since i and n may be so great that their sum would wrap. */
        boolean hasCells(int i, int n) {
            return i >= 0 && n >= 0 && i <= length && n <= length - i;
        }

        int cut(int v) {
            switch (lane) {
                case BYTES: return (byte) v;
                case SHORTS: return (short) v;
                default: return v;
            }
        }

        /** What a cast of nothing meets is NULL, at its first use: nothing is no CAST. */
        int faultOfLane(int asLane) {
            if (!has) {
                return NULL;
            }
            return lane == asLane ? NO_FAULT : CAST;
        }

        int faultOfCells(int asLane, int i, int n) {
            int ofLane = faultOfLane(asLane);
            if (ofLane != NO_FAULT) {
                return ofLane;
            }
            if (n < 0) {
                return SIZE;
            }
            return hasCells(i, n) ? NO_FAULT : INDEX;
        }
    }

    /** A TEXT in some cells: k and MINUTES, JURORS of three codes each, CASES of four codes each. */
    private static final class Text {
        private static final int JURORS_FROM = 3, JUROR_CODES = 3, CASE_CODES = 4;

        private final int[] codes = new int[MOST_CELLS];
        private int length;
        private int casesFrom;

        /** The FIRST FAULT of n cells from i on, which are there; NONE: they are a TEXT. */
        int firstFault(Sheet from, int i, int n) {
            System.arraycopy(from.cells, i, codes, 0, n);
            length = n;
            casesFrom = NONE;
            for (int p = 0; p < n; p++) {
                if (!goesOn(p)) {
                    return p;
                }
                if (casesFrom == NONE && codes[p] == ';') {
                    casesFrom = p;
                }
            }
            return isWhole() ? NONE : n;
        }

        /** Whether a TEXT goes on so at p, as the codes ahead of p begin one. */
        private boolean goesOn(int p) {
            if (p == 0) {
                return codes[p] == 'k';
            }
            if (p < JURORS_FROM) {
                return goesOnInMinutes(p);
            }
            return casesFrom == NONE ? goesOnInJurors(p) : goesOnInCases(p);
        }

        private boolean goesOnInMinutes(int p) {
            if (p == 1) {
                return isDigit(p, 0, MOST_MINUTES / 10);
            }
            return isDigit(p, 0, 9) && toldMinutes() >= LEAST_MINUTES && toldMinutes() <= MOST_MINUTES;
        }

        private boolean goesOnInJurors(int p) {
            int ahead = (p - JURORS_FROM) / JUROR_CODES;
            switch ((p - JURORS_FROM) % JUROR_CODES) {
                case 0: return codes[p] == ',' && ahead < MOST_JURORS || codes[p] == ';' && ahead > 0;
                case 1: return kindAt(p) != NONE;
                default: return isDigit(p, 1, 9);
            }
        }

        private boolean goesOnInCases(int p) {
            int ahead = (p - casesFrom) / CASE_CODES;
            switch ((p - casesFrom) % CASE_CODES) {
                case 0: return codes[p] == ';' && ahead < MOST_CASES;
                case 1: return isDigit(p, 0, DEEDS - 1);
                default: return isDigit(p, 1, 9);
            }
        }

        private boolean isWhole() {
            return casesFrom != NONE && (length - casesFrom) % CASE_CODES == 0;
        }

        private boolean isDigit(int p, int least, int most) {
            return codes[p] >= '0' + least && codes[p] <= '0' + most;
        }

        private int digit(int p) {
            return codes[p] - '0';
        }

        private int kindAt(int p) {
            switch (codes[p]) {
                case 'c': return CHILD;
                case 'h': return HUNGRY;
                case 's': return SWEET;
                default: return NONE;
            }
        }

        int toldMinutes() {
            return 10 * digit(1) + digit(2);
        }

        // What follows is asked of a whole TEXT alone.

        int toldJurors() {
            return (casesFrom - JURORS_FROM) / JUROR_CODES;
        }

        int toldCases() {
            return (length - casesFrom) / CASE_CODES;
        }

        int toldKind(int j) {
            return kindAt(JURORS_FROM + JUROR_CODES * j + 1);
        }

        int toldAge(int j) {
            return digit(JURORS_FROM + JUROR_CODES * j + 2);
        }

        /** Of a CASE: 0 DEED, 1 LONG, 2 WEIGHT. */
        int toldOfCase(int c, int what) {
            return digit(casesFrom + CASE_CODES * c + 1 + what);
        }
    }

    /** The COURT as it is now, with its READINGS; without one all numbers are 0. */
    private static final class Court {
        private final int[] kind = new int[MOST_JURORS];
        private final int[] age = new int[MOST_JURORS];
        private final int[] deed = new int[MOST_CASES];
        private final int[] takes = new int[MOST_CASES];
        private final int[] weight = new int[MOST_CASES];
        private final int[] readCase = new int[MOST_READINGS];
        private final int[] readHow = new int[MOST_READINGS];
        private int sits;
        private int jurors;
        private int cases;
        private int law;
        private int sweets;
        private int struck;
        private int readings;

        boolean stands() {
            return cases > 0;
        }

        boolean isJuror(int j) {
            return j >= 0 && j < jurors;
        }

        boolean isCase(int c) {
            return c >= 0 && c < cases;
        }

        /** A whole TEXT tells at most MOST_JURORS and MOST_CASES, so the rows are long enough. */
        void makeAnew(Text text) {
            sits = text.toldMinutes();
            jurors = text.toldJurors();
            for (int j = 0; j < jurors; j++) {
                kind[j] = text.toldKind(j);
                age[j] = text.toldAge(j);
            }
            cases = text.toldCases();
            for (int c = 0; c < cases; c++) {
                deed[c] = text.toldOfCase(c, 0);
                takes[c] = text.toldOfCase(c, 1);
                weight[c] = text.toldOfCase(c, 2);
            }
            law = 0;
            sweets = 0;
            struck = 0;
            readings = 0;
        }
    }

    /**
     * A SITTING that changes nothing of the COURT: what it is held with is its own, so that a call
     * may ask what would be with another LAW, other SWEETS, other STRUCK ones, another kind.
     */
    private static final class Sitting {
        private final Court of;
        private final int[] kind = new int[MOST_JURORS];
        private final int[] order = new int[MOST_CASES];
        private final int[] verdict = new int[MOST_CASES];
        private final int[] verdictOnDeed = new int[DEEDS];
        private int length;
        private int law;
        private int sweets;
        private int struck;
        private int uneaten;
        private int end;
        private int sentenced;

        Sitting(Court of) {
            this.of = of;
        }

        /** All as it is in the COURT now, nothing eaten, and no CASE in the ORDER yet. */
        void prepare() {
            System.arraycopy(of.kind, 0, kind, 0, MOST_JURORS);
            law = of.law;
            sweets = of.sweets;
            struck = of.struck;
            uneaten = sweets;
            length = 0;
        }

        void addToOrder(int c) {
            if (length < MOST_CASES) {
                order[length] = c;
                length++;
            }
        }

        /** Whether there was a next ORDER of the same CASES, as rows follow one another. */
        boolean goToNextOrder() {
            int rise = length - 2;
            while (rise >= 0 && order[rise] > order[rise + 1]) {
                rise--;
            }
            if (rise < 0) {
                return false;
            }
            int with = length - 1;
            while (with > rise && order[with] < order[rise]) {
                with--;
            }
            swapInOrder(rise, with);
            for (int left = rise + 1, right = length - 1; left < right; left++, right--) {
                swapInOrder(left, right);
            }
            return true;
        }

        private void swapInOrder(int p, int q) {
            int c = order[p];
            order[p] = order[q];
            order[q] = c;
        }

        void hold() {
            Arrays.fill(verdict, NONE);
            Arrays.fill(verdictOnDeed, NONE);
            uneaten = sweets;
            end = 0;
            sentenced = 0;
            boolean isHome = false;
            for (int p = 0; p < length; p++) {
                int c = order[p];
                boolean isFirst = verdictOnDeed[of.deed[c]] == NONE;
                int wouldEnd = end + (isFirst ? of.takes[c] : 1);
                isHome = isHome || wouldEnd > of.sits;
                if (isHome) {
                    verdict[c] = NOT_REACHED;
                } else {
                    end = wouldEnd;
                    judge(c, isFirst);
                }
            }
        }

        private void judge(int c, boolean isFirst) {
            int deed = of.deed[c];
            if (isFirst) {
                int guilty = Integer.bitCount(guiltyVotes(deed, end));
                verdictOnDeed[deed] = 2 * guilty > Integer.bitCount(voters()) ? GUILTY : ACQUITTED;
            }
            verdict[c] = verdictOnDeed[deed];
            if (verdict[c] == GUILTY) {
                sentenced += of.weight[c];
            }
        }

        private int voters() {
            int all = (1 << of.jurors) - 1;
            return all & ~struck;
        }

        /** Who votes for guilty, as a set; the sweets that are eaten then are gone from this sitting. */
        int guiltyVotes(int deed, int minute) {
            boolean isCrime = bitOf(law, deed) == 1;
            int voters = voters();
            int set = 0;
            for (int j = 0; j < of.jurors; j++) {
                if (bitOf(voters, j) == 1 && votesGuilty(j, isCrime, minute)) {
                    set |= 1 << j;
                }
            }
            return set;
        }

        private boolean votesGuilty(int j, boolean isCrime, int minute) {
            if (kind[j] == SWEET && (uneaten & 1 << j) != 0) {
                uneaten &= ~(1 << j);
                return false;
            }
            return isCrime || kind[j] == HUNGRY && minute >= HUNGER_BY_AGE * of.age[j];
        }
    }
}
