import java.util.function.Supplier;
import java.util.function.ToLongFunction;

/**
 * Each refusal and each fault that a promise's line names, in the order in which it names them: the call that
 * comes to one of them breaks all that the line names behind it, too. Of each: what the call answers, that it
 * changes nothing, and what fault() tells then, whatever fault there was ahead.
 */
public final class RefusalsTest {
    private static final Due D = new Due("RefusalsTest");
    private static final int MIN = Integer.MIN_VALUE, MAX = Integer.MAX_VALUE;
    private static final int UNKNOWN = -1, OUTSIDE = -2, STATE = -3, FULL = -4;
    private static final int NULL = 1, CAST = 2, INDEX = 3, SIZE = 4;
    // What fault() tells behind a call that names no FAULTS: what it told ahead.
    private static final int KEPT = -1;

    private static final String TEXT = "k30,c4,h2,s3,s1;147;255;139";
    private static final int JURORS = 4, CASES = 3, READINGS = 3;
    // Sheet 0: the text, bytes; sheet 1: an order, ints; sheet 2: shorts; sheet 3: nothing.
    private static final int TEXTS = 0, ORDERS = 1, OTHERS = 2, NOTHING = 3;
    private static final int[] LENGTH = {TEXT.length(), 3, 2, 0};
    private static final int[] LANE = {0, 2, 1, -1};
    private static final int[] NO_SHEET = {MIN, -1, 4, MAX};
    private static final int[] NO_LANE = {MIN, -1, 3, MAX};
    private static final int[] NO_JUROR = {MIN, -1, JURORS, 5, 32, MAX};
    private static final int[] NO_CASE = {MIN, -1, CASES, 5, 32, MAX};

    private static final Supplier<ChildCourt> NO_COURT = RefusalsTest::withoutCourt;
    private static final Supplier<ChildCourt> COURT = RefusalsTest::withCourt;
    private static final Supplier<ChildCourt> FULL_COURT = RefusalsTest::withAllReadings;

    public static void main(String[] args) {
        court();
        ofJurorAndCase();
        chalkAndMinutes();
        treatAndStrike();
        sitting();
        votes();
        mostAndDelay();
        bribe();
        strikesAndWorth();
        reading();
        back();
        codesKindsTreated();
        odds();
        sheet();
        lose();
        put();
        cell();
        copy();
        tellAndHush();
        as();
        many();
        D.end();
    }

    // ---- what the calls are made on

    private static ChildCourt withoutCourt() {
        ChildCourt x = new ChildCourt();
        fill(x, TEXTS, 0, TEXT.chars().toArray());
        fill(x, ORDERS, 2, 2, 0, 1);
        fill(x, OTHERS, 1, -5, 300);
        return x;
    }

    private static void fill(ChildCourt x, int k, int lane, int... cells) {
        x.sheet(k, lane, cells.length);
        for (int i = 0; i < cells.length; i++) {
            x.put(k, i, cells[i]);
        }
    }

    private static ChildCourt withCourt() {
        ChildCourt x = withoutCourt();
        x.court(TEXTS, 0, 0, TEXT.length());
        x.chalk(6);
        x.treat(2, true);
        x.treat(1, true);
        x.strike(0, true);
        x.reading(1, 1);
        x.reading(0, 0);
        x.reading(2, 2);
        x.tell(3);
        return x;
    }

    private static ChildCourt withAllReadings() {
        ChildCourt x = withCourt();
        for (int r = READINGS; r < 8; r++) {
            x.reading(r % CASES, r % 2);
        }
        return x;
    }

    private static void cause(ChildCourt x, int fault) {
        long answer = switch (fault) {
            case NULL -> x.put(NOTHING, 0, 0);
            case CAST -> x.cell(ORDERS, 0, 0);
            case INDEX -> x.put(ORDERS, -1, 0);
            case SIZE -> x.sheet(ORDERS, 0, -1);
            default -> x.copy(ORDERS, 0, ORDERS, 0, 0);
        };
        D.due("answer " + answer + " ahead: fault()", x.fault(), fault);
    }

    private static void refused(Supplier<ChildCourt> of, String name, ToLongFunction<ChildCourt> call, long want, int fault) {
        String unchanged = Snapshot.of(of.get());
        for (int ahead = 0; ahead <= SIZE; ahead++) {
            ChildCourt x = of.get();
            cause(x, ahead);
            D.due(name, call.applyAsLong(x), want);
            D.due("fault() after " + name, x.fault(), fault == KEPT ? ahead : fault);
            D.due("all is as it was after " + name, Snapshot.of(x).equals(unchanged) ? 1 : 0, 1);
        }
    }

    /** With a court and without one alike. */
    private static void refusedAlways(String name, ToLongFunction<ChildCourt> call, long want, int fault) {
        refused(COURT, name, call, want, fault);
        refused(NO_COURT, name + " (no court)", call, want, fault);
    }

    private static void faulty(Supplier<ChildCourt> of, String name, ToLongFunction<ChildCourt> call, int fault) {
        refused(of, name, call, -10 - fault, fault);
    }

    // ---- cells that court(), sitting() and bribe() take alike

    private interface OfCells {
        long on(ChildCourt x, int sheet, int lane, int i, int n);
    }

    private static void refusedSheetAndLane(Supplier<ChildCourt> of, String name, OfCells call) {
        for (int k : NO_SHEET) {
            refused(of, name + ", sheet " + k, x -> call.on(x, k, 3, -1, -1), UNKNOWN, 0);
        }
        for (int lane : NO_LANE) {
            refused(of, name + ", lane " + lane, x -> call.on(x, NOTHING, lane, -1, -1), OUTSIDE, 0);
            refused(of, name + ", of a row, lane " + lane, x -> call.on(x, ORDERS, lane, -1, -1), OUTSIDE, 0);
        }
    }

    private static void faultsOfCells(Supplier<ChildCourt> of, String name, OfCells call) {
        for (int lane = 0; lane < 3; lane++) {
            int as = lane;
            faulty(of, name + ", nothing is no cast, lane " + as, x -> call.on(x, NOTHING, as, -1, -1), NULL);
            faulty(of, name + ", nothing, no cells, lane " + as, x -> call.on(x, NOTHING, as, 0, 0), NULL);
            for (int k = 0; k < NOTHING; k++) {
                int row = k;
                if (LANE[k] != as) {
                    faulty(of, name + ", cast of " + row + " to " + as, x -> call.on(x, row, as, -1, -1), CAST);
                    faulty(of, name + ", cast of no cells of " + row + " to " + as, x -> call.on(x, row, as, 0, 0), CAST);
                }
            }
        }
        for (int k = 0; k < NOTHING; k++) {
            int row = k;
            for (int n : new int[] {MIN, -2, -1}) {
                faulty(of, name + ", size " + n, x -> call.on(x, row, LANE[row], -1, n), SIZE);
                faulty(of, name + ", size " + n + " from 0 on", x -> call.on(x, row, LANE[row], 0, n), SIZE);
            }
            for (int[] b : beyond(LENGTH[k])) {
                faulty(of, name + ", index " + b[0] + " " + b[1], x -> call.on(x, row, LANE[row], b[0], b[1]), INDEX);
            }
        }
    }

    /** Places and how many from there on, not all of which are there. */
    private static int[][] beyond(int length) {
        return new int[][] {{MIN, 0}, {-1, 0}, {-1, 1}, {-1, length}, {length + 1, 0}, {MAX, 0}, {0, length + 1},
            {1, length}, {length, 1}, {length - 1, 2}, {0, MAX}, {1, MAX}, {length, MAX}, {MAX, 1}, {MAX, MAX}, {MIN, MAX}};
    }

    // ---- promise by promise

    private static void court() {
        for (Supplier<ChildCourt> of : java.util.List.of(COURT, NO_COURT)) {
            refusedSheetAndLane(of, "court", ChildCourt::court);
            faultsOfCells(of, "court", ChildCourt::court);
        }
        for (int n = 0; n < TEXT.length(); n++) {
            int codes = n;
            // Cut amid the text it ends too soon; behind a whole case it is a text.
            if (n != 19 && n != 23) {
                refusedAlways("court of " + n, x -> x.court(TEXTS, 0, 0, codes), -100 - codes, 0);
            }
        }
        refusedAlways("court of no cells at the end", x -> x.court(TEXTS, 0, TEXT.length(), 0), -100, 0);
        refusedAlways("court of ints", x -> x.court(ORDERS, 2, 0, 3), -100, 0);
        refusedAlways("court of shorts", x -> x.court(OTHERS, 1, 1, 1), -100, 0);
    }

    private static void ofJurorAndCase() {
        for (int j : NO_JUROR) {
            refused(COURT, "ofJuror " + j, x -> x.ofJuror(j, 4), UNKNOWN, KEPT);
        }
        for (int c : NO_CASE) {
            refused(COURT, "ofCase " + c, x -> x.ofCase(c, 3), UNKNOWN, KEPT);
        }
        refused(NO_COURT, "ofJuror without a court", x -> x.ofJuror(0, 4), UNKNOWN, KEPT);
        refused(NO_COURT, "ofCase without a court", x -> x.ofCase(0, 3), UNKNOWN, KEPT);
        for (int what : new int[] {MIN, -1, 4, MAX}) {
            refused(COURT, "ofJuror, what " + what, x -> x.ofJuror(JURORS - 1, what), OUTSIDE, KEPT);
        }
        for (int what : new int[] {MIN, -1, 3, MAX}) {
            refused(COURT, "ofCase, what " + what, x -> x.ofCase(CASES - 1, what), OUTSIDE, KEPT);
        }
    }

    private static void chalkAndMinutes() {
        for (int set : new int[] {MIN, -64, -1, 64, 127, MAX}) {
            refusedAlways("chalk " + set, x -> x.chalk(set), OUTSIDE, KEPT);
        }
        for (int v : new int[] {MIN, -5, 0, 4, 61, MAX}) {
            refusedAlways("minutes " + v, x -> x.minutes(v), OUTSIDE, KEPT);
        }
        for (int set : new int[] {0, 63}) {
            refused(NO_COURT, "chalk " + set + " without a court", x -> x.chalk(set), STATE, KEPT);
        }
        for (int v : new int[] {5, 60}) {
            refused(NO_COURT, "minutes " + v + " without a court", x -> x.minutes(v), STATE, KEPT);
        }
    }

    private static void treatAndStrike() {
        for (boolean is : new boolean[] {true, false}) {
            for (int j : NO_JUROR) {
                refused(COURT, "treat " + j, x -> x.treat(j, is), UNKNOWN, KEPT);
                refused(COURT, "strike " + j, x -> x.strike(j, is), UNKNOWN, KEPT);
            }
            refused(NO_COURT, "treat without a court", x -> x.treat(0, is), UNKNOWN, KEPT);
            refused(NO_COURT, "strike without a court", x -> x.strike(0, is), UNKNOWN, KEPT);
        }
    }

    private static void sitting() {
        for (Supplier<ChildCourt> of : java.util.List.of(COURT, NO_COURT)) {
            refusedSheetAndLane(of, "sitting", (x, k, lane, i, n) -> x.sitting(k, lane, i, n, 2));
            for (int what : new int[] {MIN, -1, 2, 9, 15, MAX}) {
                refused(of, "sitting, what " + what, x -> x.sitting(NOTHING, 0, -1, -1, what), OUTSIDE, 0);
                refused(of, "sitting by an order, what " + what, x -> x.sitting(ORDERS, 2, 0, 3, what), OUTSIDE, 0);
            }
            for (int what : new int[] {0, 1, 10, 14}) {
                faultsOfCells(of, "sitting, what " + what, (x, k, lane, i, n) -> x.sitting(k, lane, i, n, what));
            }
        }
        refused(NO_COURT, "sitting without a court", x -> x.sitting(ORDERS, 2, 0, 3, 0), STATE, 0);
        refused(NO_COURT, "sitting by no cells without a court", x -> x.sitting(ORDERS, 2, 3, 0, 1), STATE, 0);
        refused(NO_COURT, "state ahead of no such case", x -> x.sitting(OTHERS, 1, 0, 2, 10), STATE, 0);
        refusedOrders("sitting", x -> x.sitting(ORDERS, 2, 0, 3, 0));
        refusedOrders("sitting, what 14", x -> x.sitting(ORDERS, 2, 0, 3, 14));
    }

    /** Cells that are no ORDER: a CASE that there is not, at each place; a CASE twice. */
    private static void refusedOrders(String name, ToLongFunction<ChildCourt> call) {
        for (int place = 0; place < 3; place++) {
            for (int c : NO_CASE) {
                int at = place;
                refused(() -> courtWithOrder(at, c), name + ", case " + c + " at " + at, call, UNKNOWN, 0);
            }
        }
        refused(() -> courtWithOrder(1, 2), name + ", twice in a row", call, UNKNOWN, 0);
        refused(() -> courtWithOrder(2, 2), name + ", twice, first and last", call, UNKNOWN, 0);
        refused(() -> courtWithOrder(2, 0), name + ", twice, at the end", call, UNKNOWN, 0);
    }

    private static ChildCourt courtWithOrder(int place, int c) {
        ChildCourt x = withCourt();
        x.put(ORDERS, place, c);
        return x;
    }

    private static void votes() {
        for (int c : NO_CASE) {
            refused(COURT, "votes " + c, x -> x.votes(c, 61), UNKNOWN, KEPT);
        }
        refused(NO_COURT, "votes without a court", x -> x.votes(0, -1), UNKNOWN, KEPT);
        for (int minute : new int[] {MIN, -1, 61, MAX}) {
            refused(COURT, "votes at " + minute, x -> x.votes(CASES - 1, minute), OUTSIDE, KEPT);
        }
    }

    private static void mostAndDelay() {
        for (int k : new int[] {MIN, -3, -2}) {
            refusedAlways("most " + k, x -> x.most(k), UNKNOWN, KEPT);
            refusedAlways("delay " + k, x -> x.delay(k), UNKNOWN, KEPT);
        }
        for (int k : new int[] {-1, 0, 5, MAX}) {
            refused(NO_COURT, "most " + k + " without a court", x -> x.most(k), STATE, KEPT);
            refused(NO_COURT, "delay " + k + " without a court", x -> x.delay(k), STATE, KEPT);
        }
    }

    private static void bribe() {
        for (int c : NO_CASE) {
            refused(COURT, "bribe for " + c, x -> x.bribe(c, 4, 3, -1, -1), UNKNOWN, 0);
            refused(COURT, "bribe for " + c + " by nothing", x -> x.bribe(c, NOTHING, 0, -1, -1), UNKNOWN, 0);
            refused(COURT, "bribe for " + c + " by an order", x -> x.bribe(c, ORDERS, 2, 0, 3), UNKNOWN, 0);
        }
        refused(NO_COURT, "bribe without a court", x -> x.bribe(0, ORDERS, 2, 0, 3), UNKNOWN, 0);
        refused(NO_COURT, "bribe without a court by nothing", x -> x.bribe(0, NOTHING, 3, -1, -1), UNKNOWN, 0);
        for (int c = 0; c < CASES; c++) {
            int of = c;
            refusedSheetAndLane(COURT, "bribe for " + of, (x, k, lane, i, n) -> x.bribe(of, k, lane, i, n));
            faultsOfCells(COURT, "bribe for " + of, (x, k, lane, i, n) -> x.bribe(of, k, lane, i, n));
            refusedOrders("bribe for " + of, x -> x.bribe(of, ORDERS, 2, 0, 3));
        }
    }

    private static void strikesAndWorth() {
        for (int what : new int[] {MIN, -1, 2, MAX}) {
            refusedAlways("strikes " + what, x -> x.strikes(what), OUTSIDE, KEPT);
        }
        refused(NO_COURT, "strikes 0 without a court", x -> x.strikes(0), STATE, KEPT);
        refused(NO_COURT, "strikes 1 without a court", x -> x.strikes(1), STATE, KEPT);
        for (int j : NO_JUROR) {
            refused(COURT, "worth " + j, x -> x.worth(j), UNKNOWN, KEPT);
        }
        refused(NO_COURT, "worth without a court", x -> x.worth(0), UNKNOWN, KEPT);
    }

    private static void reading() {
        for (int c : NO_CASE) {
            refused(COURT, "reading of " + c, x -> x.reading(c, 3), UNKNOWN, KEPT);
            refused(FULL_COURT, "a ninth reading of " + c, x -> x.reading(c, 3), UNKNOWN, KEPT);
        }
        refused(NO_COURT, "reading without a court", x -> x.reading(0, 3), UNKNOWN, KEPT);
        for (int how : new int[] {MIN, -1, 3, MAX}) {
            refused(COURT, "reading, how " + how, x -> x.reading(CASES - 1, how), OUTSIDE, KEPT);
            refused(FULL_COURT, "a ninth reading, how " + how, x -> x.reading(CASES - 1, how), OUTSIDE, KEPT);
        }
        for (int how = 0; how < 3; how++) {
            int as = how;
            refused(FULL_COURT, "a ninth reading " + how, x -> x.reading(0, as), FULL, KEPT);
        }
    }

    private static void back() {
        for (int k : new int[] {MIN, -1, READINGS + 1, MAX}) {
            refused(COURT, "back " + k, x -> x.back(k), OUTSIDE, KEPT);
        }
        for (int k : new int[] {MIN, -1, 9, MAX}) {
            refused(FULL_COURT, "back " + k + " of eight", x -> x.back(k), OUTSIDE, KEPT);
        }
        for (int k : new int[] {MIN, -1, 1, MAX}) {
            refused(NO_COURT, "back " + k + " without a court", x -> x.back(k), OUTSIDE, KEPT);
        }
    }

    private static void codesKindsTreated() {
        for (int what : new int[] {MIN, -1, 3, MAX}) {
            refusedAlways("codes " + what, x -> x.codes(what), OUTSIDE, KEPT);
        }
        for (int what = 0; what < 3; what++) {
            int of = what;
            refused(NO_COURT, "codes " + what + " without a court", x -> x.codes(of), STATE, KEPT);
        }
        for (int j : NO_JUROR) {
            refused(COURT, "kinds " + j, x -> x.kinds(j), UNKNOWN, KEPT);
        }
        refused(NO_COURT, "kinds without a court", x -> x.kinds(0), UNKNOWN, KEPT);
        refused(NO_COURT, "treated without a court", ChildCourt::treated, STATE, KEPT);
    }

    private static void odds() {
        for (int c : NO_CASE) {
            refused(COURT, "odds of " + c, x -> x.odds(c, 0), ChildCourt.LOST, KEPT);
            refused(COURT, "odds of " + c + ", which 2", x -> x.odds(c, 2), ChildCourt.LOST, KEPT);
        }
        refused(NO_COURT, "odds without a court", x -> x.odds(0, 1), ChildCourt.LOST, KEPT);
        for (int which : new int[] {MIN, -1, 2, MAX}) {
            refused(COURT, "odds, which " + which, x -> x.odds(CASES - 1, which), ChildCourt.LOST, KEPT);
        }
    }

    private static void sheet() {
        for (int k : NO_SHEET) {
            refusedAlways("sheet " + k, x -> x.sheet(k, 3, 61), UNKNOWN, 0);
            refusedAlways("sheet " + k + " of no length", x -> x.sheet(k, 3, -1), UNKNOWN, 0);
        }
        for (int k = 0; k < 4; k++) {
            int of = k;
            for (int lane : NO_LANE) {
                refusedAlways("sheet, lane " + lane, x -> x.sheet(of, lane, 5), OUTSIDE, 0);
                refusedAlways("sheet, lane ahead of size " + lane, x -> x.sheet(of, lane, -1), OUTSIDE, 0);
            }
            for (int n : new int[] {61, MAX}) {
                refusedAlways("sheet of " + n, x -> x.sheet(of, 0, n), OUTSIDE, 0);
            }
            for (int n : new int[] {MIN, -1}) {
                refusedAlways("sheet of " + n, x -> x.sheet(of, 2, n), -14, SIZE);
            }
        }
    }

    private static void lose() {
        for (int k : NO_SHEET) {
            refusedAlways("lose " + k, x -> x.lose(k), UNKNOWN, KEPT);
        }
        refusedAlways("lose, it had nothing", x -> x.lose(NOTHING), 0, KEPT);
    }

    private static void put() {
        for (int k : NO_SHEET) {
            refusedAlways("put to " + k, x -> x.put(k, -1, 7), UNKNOWN, 0);
        }
        for (int i : new int[] {MIN, -1, 0, MAX}) {
            refusedAlways("put to nothing at " + i, x -> x.put(NOTHING, i, 7), -11, NULL);
        }
        for (int k = 0; k < NOTHING; k++) {
            for (int i : new int[] {MIN, -1, LENGTH[k], LENGTH[k] + 1, 60, MAX}) {
                int row = k;
                refusedAlways("put at " + i, x -> x.put(row, i, 7), -13, INDEX);
            }
        }
    }

    private static void cell() {
        for (int k : NO_SHEET) {
            refusedAlways("cell of " + k, x -> x.cell(k, -1, 3), ChildCourt.LOST, 0);
        }
        for (int lane : NO_LANE) {
            refusedAlways("cell of nothing, lane " + lane, x -> x.cell(NOTHING, -1, lane), ChildCourt.LOST, 0);
            refusedAlways("cell, lane " + lane, x -> x.cell(ORDERS, 0, lane), ChildCourt.LOST, 0);
        }
        for (int lane = 0; lane < 3; lane++) {
            int as = lane;
            refusedAlways("cell of nothing as " + as, x -> x.cell(NOTHING, -1, as), ChildCourt.LOST, NULL);
            for (int k = 0; k < NOTHING; k++) {
                int row = k;
                for (int i : new int[] {MIN, -1, LENGTH[k], 60, MAX}) {
                    int fault = LANE[k] == as ? INDEX : CAST;
                    refusedAlways("cell " + i + " as " + as, x -> x.cell(row, i, as), ChildCourt.LOST, fault);
                }
                if (LANE[k] != as) {
                    refusedAlways("cell that is there as " + as, x -> x.cell(row, 0, as), ChildCourt.LOST, CAST);
                }
            }
        }
    }

    private static void copy() {
        for (int k : NO_SHEET) {
            refusedAlways("copy from " + k, x -> x.copy(k, -1, NOTHING, -1, -1), UNKNOWN, 0);
            refusedAlways("copy to " + k, x -> x.copy(NOTHING, -1, k, -1, -1), UNKNOWN, 0);
        }
        refusedAlways("copy from nothing", x -> x.copy(NOTHING, -1, ORDERS, -1, -1), -11, NULL);
        refusedAlways("copy to nothing", x -> x.copy(ORDERS, -1, NOTHING, -1, -1), -11, NULL);
        refusedAlways("copy from nothing to it", x -> x.copy(NOTHING, 0, NOTHING, 0, 0), -11, NULL);
        for (int k = 0; k < NOTHING; k++) {
            for (int other = 0; other < NOTHING; other++) {
                int from = k;
                int to = other;
                if (from != to) {
                    refusedAlways("copy " + from + " to " + to, x -> x.copy(from, -1, to, -1, -1), -12, CAST);
                    refusedAlways("copy none of " + from + " to " + to, x -> x.copy(from, 0, to, 0, 0), -12, CAST);
                }
            }
        }
        copyBeyond();
    }

    private static void copyBeyond() {
        Supplier<ChildCourt> of = RefusalsTest::withLikeRows;
        for (int n : new int[] {MIN, -1}) {
            refused(of, "copy " + n + " is no size", x -> x.copy(ORDERS, 0, OTHERS, 0, n), -13, INDEX);
        }
        for (int[] b : beyond(LENGTH[ORDERS])) {
            refused(of, "copy from " + b[0] + " " + b[1], x -> x.copy(ORDERS, b[0], TEXTS, 0, b[1]), -13, INDEX);
            refused(of, "copy to " + b[0] + " " + b[1], x -> x.copy(TEXTS, 0, ORDERS, b[0], b[1]), -13, INDEX);
            refused(of, "copy within from " + b[0] + " " + b[1], x -> x.copy(ORDERS, b[0], ORDERS, 0, b[1]), -13, INDEX);
            refused(of, "copy within to " + b[0] + " " + b[1], x -> x.copy(ORDERS, 0, ORDERS, b[0], b[1]), -13, INDEX);
        }
        // The other row is shorter: what is there to be taken is not there to be put.
        refused(of, "copy three to two", x -> x.copy(ORDERS, 0, OTHERS, 0, 3), -13, INDEX);
        refused(of, "copy two to the last", x -> x.copy(ORDERS, 0, OTHERS, 1, 2), -13, INDEX);
        refused(of, "copy three of two", x -> x.copy(OTHERS, 0, ORDERS, 0, 3), -13, INDEX);
    }

    private static ChildCourt withLikeRows() {
        ChildCourt x = withCourt();
        fill(x, TEXTS, 2, 10, 11, 12, 13, 14, 15);
        fill(x, OTHERS, 2, 20, 21);
        return x;
    }

    private static void tellAndHush() {
        for (int j : NO_JUROR) {
            refused(COURT, "tell " + j, x -> x.tell(j), UNKNOWN, KEPT);
            refused(COURT, "hush " + j, x -> x.hush(j), UNKNOWN, KEPT);
        }
        refused(NO_COURT, "tell without a court", x -> x.tell(0), UNKNOWN, KEPT);
        refused(NO_COURT, "hush without a court", x -> x.hush(0), UNKNOWN, KEPT);
    }

    private static void as() {
        for (int j : NO_JUROR) {
            refused(COURT, "as of " + j, x -> x.as(j, 3), UNKNOWN, 0);
        }
        refused(NO_COURT, "as without a court", x -> x.as(0, -1), UNKNOWN, 0);
        for (int kind : new int[] {MIN, -1, 3, MAX}) {
            refused(COURT, "as " + kind, x -> x.as(0, kind), OUTSIDE, 0);
        }
        refused(COURT, "a child as a hungry one", x -> x.as(0, 1), -12, CAST);
        refused(COURT, "a child as a sweet one", x -> x.as(0, 2), -12, CAST);
        refused(COURT, "a hungry one as a sweet one", x -> x.as(1, 2), -12, CAST);
    }

    private static void many() {
        for (int what : new int[] {MIN, -1, 5, MAX}) {
            refusedAlways("many " + what, x -> x.many(what), OUTSIDE, KEPT);
        }
    }
}
