/** Promises 22 to 31: sheets, their cells and faults, telling, hushing, casts, the trace. */
public final class SheetsTest {
    private static final Due D = new Due("SheetsTest");

    public static void main(String[] args) {
        sheet();
        lose();
        putAndCell();
        cellFaults();
        copy();
        copyFaults();
        tell();
        hush();
        as();
        traceWraps();
        fault();
        D.end();
    }

    private static void sheet() {
        ChildCourt x = new ChildCourt();
        D.due(x, "sheet -1", x.sheet(-1, 9, -1), ChildCourt.UNKNOWN, 0);
        D.due(x, "sheet 4", x.sheet(4, 0, 0), ChildCourt.UNKNOWN, 0);
        D.due(x, "lane -1", x.sheet(0, -1, -1), ChildCourt.OUTSIDE, 0);
        D.due(x, "lane 3", x.sheet(0, 3, -1), ChildCourt.OUTSIDE, 0);
        D.due(x, "61 cells", x.sheet(0, 0, 61), ChildCourt.OUTSIDE, 0);
        D.due(x, "a length below 0", x.sheet(0, 0, -1), -14, 4);
        D.due(x, "the least length", x.sheet(0, 0, Integer.MIN_VALUE), -14, 4);
        D.due(x, "it has nothing still", x.put(0, 0, 0), -11, 1);
        for (int k = 0; k < 4; k++) {
            D.due(x, "no cells " + k, x.sheet(k, k % 3, 0), 1, 0);
            D.due(x, "there is none " + k, x.cell(k, 0, k % 3), ChildCourt.LOST, 3);
            D.due(x, "60 cells " + k, x.sheet(k, k % 3, 60), 1, 0);
            D.due(x, "the last " + k, x.cell(k, 59, k % 3), 0, 0);
            D.due(x, "no 61st " + k, x.cell(k, 60, k % 3), ChildCourt.LOST, 3);
        }
        x.put(0, 3, 7);
        D.due(x, "size changes nothing", x.sheet(0, 1, -1), -14, 4);
        D.due(x, "it is there", x.cell(0, 3, 0), 7, 0);
        D.due(x, "a new row", x.sheet(0, 0, 4), 1, 0);
        D.due(x, "is of zeroes", x.cell(0, 3, 0), 0, 0);
        D.due(x, "and shorter", x.cell(0, 4, 0), ChildCourt.LOST, 3);
    }

    private static void lose() {
        ChildCourt x = new ChildCourt();
        x.sheet(2, 1, 1);
        x.put(2, 0, 5);
        D.due("lose", x.lose(2), 1);
        D.due("again", x.lose(2), 0);
        D.due("another", x.lose(1), 0);
        D.due("sheet -1", x.lose(-1), ChildCourt.UNKNOWN);
        D.due("sheet 4", x.lose(4), ChildCourt.UNKNOWN);
        D.due(x, "nothing, of whatever lane", x.cell(2, 0, 0), ChildCourt.LOST, 1);
        x.sheet(2, 1, 1);
        D.due(x, "a new row is of zeroes", x.cell(2, 0, 1), 0, 0);
    }

    private static void putAndCell() {
        int[] put = {0, 127, 128, -128, -129, 255, 256, 32767, 32768, -32769, 65536, Integer.MAX_VALUE, Integer.MIN_VALUE};
        for (int lane = 0; lane < 3; lane++) {
            ChildCourt x = new ChildCourt();
            x.sheet(3, lane, put.length);
            for (int i = 0; i < put.length; i++) {
                D.due(x, "put " + put[i], x.put(3, i, put[i]), 1, 0);
            }
            for (int i = 0; i < put.length; i++) {
                int cut = lane == 0 ? (byte) put[i] : lane == 1 ? (short) put[i] : put[i];
                D.due(x, "lane " + lane + " cell of " + put[i], x.cell(3, i, lane), cut, 0);
            }
        }
    }

    private static void cellFaults() {
        ChildCourt x = new ChildCourt();
        D.due(x, "put, nothing", x.put(0, -1, 0), -11, 1);
        D.due(x, "put, sheet -1", x.put(-1, 0, 0), ChildCourt.UNKNOWN, 0);
        x.put(0, -1, 0);
        D.due(x, "put, sheet 4", x.put(4, 0, 0), ChildCourt.UNKNOWN, 0);
        x.put(0, -1, 0);
        D.due(x, "cell, sheet -1", x.cell(-1, 0, 0), ChildCourt.LOST, 0);
        x.put(0, -1, 0);
        D.due(x, "cell, lane 3", x.cell(0, 0, 3), ChildCourt.LOST, 0);
        x.put(0, -1, 0);
        D.due(x, "cell, lane -1", x.cell(0, 0, -1), ChildCourt.LOST, 0);
        D.due(x, "cell, nothing", x.cell(0, -1, 2), ChildCourt.LOST, 1);
        x.sheet(0, 1, 2);
        D.due(x, "put below", x.put(0, -1, 0), -13, 3);
        D.due(x, "put beyond", x.put(0, 2, 0), -13, 3);
        D.due(x, "cell, another lane", x.cell(0, -1, 2), ChildCourt.LOST, 2);
        D.due(x, "cell below", x.cell(0, -1, 1), ChildCourt.LOST, 3);
        D.due(x, "cell beyond", x.cell(0, 2, 1), ChildCourt.LOST, 3);
        D.due(x, "cell", x.cell(0, 1, 1), 0, 0);
    }

    private static void fill(ChildCourt x, int k, int lane, int n, int from) {
        x.sheet(k, lane, n);
        for (int i = 0; i < n; i++) {
            x.put(k, i, from + i);
        }
    }

    private static void dueRow(ChildCourt x, String name, int k, int lane, int... row) {
        for (int i = 0; i < row.length; i++) {
            D.due(name + ": " + i, x.cell(k, i, lane), row[i]);
        }
    }

    private static void copy() {
        ChildCourt x = new ChildCourt();
        fill(x, 0, 2, 5, 10);
        fill(x, 1, 2, 4, 20);
        D.due(x, "copy", x.copy(0, 1, 1, 2, 2), 2, 0);
        dueRow(x, "to", 1, 2, 20, 21, 11, 12);
        dueRow(x, "from", 0, 2, 10, 11, 12, 13, 14);
        D.due(x, "onto itself, later", x.copy(0, 0, 0, 1, 4), 4, 0);
        dueRow(x, "later", 0, 2, 10, 10, 11, 12, 13);
        D.due(x, "onto itself, sooner", x.copy(0, 2, 0, 0, 3), 3, 0);
        dueRow(x, "sooner", 0, 2, 11, 12, 13, 12, 13);
        D.due(x, "no cells at both ends", x.copy(0, 5, 1, 4, 0), 0, 0);
        D.due(x, "all", x.copy(1, 0, 0, 1, 4), 4, 0);
        dueRow(x, "all", 0, 2, 11, 20, 21, 11, 12);
    }

    private static void copyFaults() {
        ChildCourt x = new ChildCourt();
        D.due(x, "sheet -1", x.copy(-1, 0, 0, 0, 0), ChildCourt.UNKNOWN, 0);
        D.due(x, "to sheet 4", x.copy(0, 0, 4, 0, 0), ChildCourt.UNKNOWN, 0);
        fill(x, 0, 0, 5, 10);
        D.due(x, "to nothing", x.copy(0, -1, 1, 0, 0), -11, 1);
        D.due(x, "from nothing", x.copy(1, -1, 0, 0, 0), -11, 1);
        D.due(x, "unknown ahead of nothing", x.copy(1, -1, 9, 0, 0), ChildCourt.UNKNOWN, 0);
        x.sheet(1, 1, 5);
        D.due(x, "unlike lanes", x.copy(0, -1, 1, 0, -1), -12, 2);
        x.sheet(1, 0, 3);
        int[][] beyond = {{-1, 0, 1}, {0, -1, 1}, {0, 0, -1}, {6, 0, 0}, {0, 4, 0}, {3, 0, 3}, {0, 1, 3}, {0, 0, 4},
            {5, 3, Integer.MAX_VALUE}, {Integer.MAX_VALUE, 0, Integer.MAX_VALUE}, {0, Integer.MAX_VALUE, 1},
            {Integer.MIN_VALUE, 0, 0}, {0, Integer.MIN_VALUE, 0}, {0, 0, Integer.MIN_VALUE}};
        for (int[] b : beyond) {
            D.due(x, "copy " + b[0] + " " + b[1] + " " + b[2], x.copy(0, b[0], 1, b[1], b[2]), -13, 3);
        }
        dueRow(x, "nothing was copied", 1, 0, 0, 0, 0);
        D.due(x, "just so many", x.copy(0, 2, 1, 0, 3), 3, 0);
    }

    private static void tell() {
        ChildCourt x = Due.courtOf("k30,c4,h2,s3;111", 0);
        D.due("a child tells", x.tell(0), 4);
        D.due("trace 1", x.trace(), 1);
        D.due("a hungry one tells", x.tell(1), 102);
        D.due("trace 1 2 1", x.trace(), (1 * 31 + 2) * 31 + 1);
        ChildCourt y = Due.courtOf("k30,c4,h2,s3;111", 0);
        D.due("a sweet one tells", y.tell(2), 106);
        D.due("trace 3 2 1 1", y.trace(), ((3 * 31 + 2) * 31 + 1) * 31 + 1);
        int was = y.trace();
        D.due("juror 3", y.tell(3), ChildCourt.UNKNOWN);
        D.due("juror -1", y.tell(-1), ChildCourt.UNKNOWN);
        D.due("no trace of it", y.trace(), was);
        D.due("no court", new ChildCourt().tell(0), ChildCourt.UNKNOWN);
    }

    private static void hush() {
        ChildCourt x = Due.courtOf("k30,s4,c4,h2,s3;111", 0);
        D.due("a child is hushed", x.hush(1), 1);
        D.due("trace 4", x.trace(), 4);
        D.due("a hungry one is hushed", x.hush(2), 2);
        D.due("trace 4 4", x.trace(), 4 * 31 + 4);
        D.due("a sweet one is hushed", x.hush(3), 70);
        D.due("trace 4 4 5", x.trace(), (4 * 31 + 4) * 31 + 5);
        D.due("the first sweet one", x.hush(0), 70);
        int was = x.trace();
        D.due("juror 4", x.hush(4), ChildCourt.UNKNOWN);
        D.due("juror -1", x.hush(-1), ChildCourt.UNKNOWN);
        D.due("no trace of it", x.trace(), was);
        D.due("no court", new ChildCourt().hush(0), ChildCourt.UNKNOWN);
    }

    private static void as() {
        ChildCourt x = Due.courtOf("k30,c4,h2,s3;111", 0);
        for (int j = 0; j < 3; j++) {
            for (int kind = 0; kind < 3; kind++) {
                boolean is = kind <= j;
                D.due(x, "as " + j + " " + kind, x.as(j, kind), is ? 1 : -12, is ? 0 : 2);
            }
        }
        x.as(0, 2);
        D.due(x, "juror -1", x.as(-1, 9), ChildCourt.UNKNOWN, 0);
        x.as(0, 2);
        D.due(x, "juror 3", x.as(3, 0), ChildCourt.UNKNOWN, 0);
        x.as(0, 2);
        D.due(x, "kind -1", x.as(0, -1), ChildCourt.OUTSIDE, 0);
        x.as(0, 2);
        D.due(x, "kind 3", x.as(0, 3), ChildCourt.OUTSIDE, 0);
        D.due(x, "no court", new ChildCourt().as(0, 0), ChildCourt.UNKNOWN, 0);
    }

    private static void traceWraps() {
        ChildCourt x = Due.courtOf("k30,s9,h1;111", 0);
        int want = 0;
        for (int t = 0; t < 40; t++) {
            x.tell(0);
            for (int body : new int[] {3, 2, 1, 1}) {
                want = 31 * want + body;
            }
            D.due("trace " + t, x.trace(), want);
        }
    }

    private static void fault() {
        ChildCourt x = Due.courtOf("k30,c4,h2,s3;111", 0);
        D.due("a call that came to none", x.fault(), 0);
        x.as(0, 2);
        D.due("cast", x.fault(), 2);
        // None of these names a FAULT, so the latest one stays.
        x.ofJuror(0, 0);
        x.ofCase(0, 0);
        x.chalk(99);
        x.treat(9, true);
        x.strike(0, true);
        x.minutes(9);
        x.votes(0, 0);
        x.most(-2);
        x.delay(-1);
        x.strikes(0);
        x.worth(0);
        x.reading(0, 0);
        x.back(1);
        x.codes(0);
        x.kinds(0);
        x.treated();
        x.odds(0, 0);
        x.lose(0);
        x.lose(9);
        x.tell(0);
        x.hush(0);
        x.trace();
        x.fault();
        x.many(9);
        D.due("still cast", x.fault(), 2);
        x.court(0, 0, 0, 0);
        D.due("the latest", x.fault(), 1);
        x.sheet(0, 0, 2);
        D.due("none by sheet", x.fault(), 0);
        x.put(0, 2, 0);
        D.due("index by put", x.fault(), 3);
        x.put(0, 0, 0);
        D.due("none by put", x.fault(), 0);
        x.cell(0, 0, 1);
        D.due("cast by cell", x.fault(), 2);
        x.sitting(0, 0, 0, 2, 0);
        D.due("refused by sitting", x.fault(), 0);
    }
}
