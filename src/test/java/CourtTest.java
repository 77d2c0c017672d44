/** Promises 1 to 8 and 32: a new object, the court by its text, what it is, what changes it. */
public final class CourtTest {
    private static final Due D = new Due("CourtTest");
    private static final String FULL_TEXT = "k30,c4,h2,s3,h6,c9;147;255;139;392;168";

    public static void main(String[] args) {
        newObject();
        textsTaken();
        firstFaults();
        codesAreNotCutAnew();
        placeCountsFromTheFirstCell();
        courtRefusalsAndFaults();
        wrongTextChangesNothing();
        textMakesAllAnew();
        ofJuror();
        ofCase();
        chalk();
        treatAndStrike();
        minutes();
        many();
        D.end();
    }

    private static void newObject() {
        ChildCourt x = new ChildCourt();
        D.due("new fault()", x.fault(), 0);
        D.due("new trace()", x.trace(), 0);
        for (int what = 0; what < 5; what++) {
            D.due("new many " + what, x.many(what), 0);
        }
        D.due("new juror", x.ofJuror(0, 0), ChildCourt.UNKNOWN);
        D.due("new case", x.ofCase(0, 0), ChildCourt.UNKNOWN);
        for (int k = 0; k < 4; k++) {
            D.due(x, "new cell " + k, x.cell(k, 0, 0), ChildCourt.LOST, 1);
            D.due("new lose " + k, x.lose(k), 0);
        }
        ChildCourt y = Due.courtOf(FULL_TEXT, 1);
        D.due("another new object is new", new ChildCourt().many(0), 0);
        D.due("and the first one stays", y.many(0), 5);
    }

    private static void textsTaken() {
        String[] texts = {"k05,c1;011", "k09,h9;599", "k10,s5;511", "k59,c1,h2;011;122", "k60,c1;011;011;011;011;011",
            "k45,c1,c1,c1,c1,c1;011", FULL_TEXT};
        int[][] cases = {{1, 1, 5}, {1, 1, 9}, {1, 1, 10}, {2, 2, 59}, {5, 1, 60}, {1, 5, 45}, {5, 5, 30}};
        for (int t = 0; t < texts.length; t++) {
            ChildCourt x = new ChildCourt();
            D.due(x, "court " + texts[t], Due.tellText(x, texts[t]), cases[t][0], 0);
            for (int what = 0; what < 3; what++) {
                D.due("many " + what + " of " + texts[t], x.many(what), cases[t][what]);
            }
        }
    }

    private static void firstFaults() {
        String five = "k60,c1,h2,s3,c4,h5";
        String full = five + ";011;122;233;344;455";
        fault("", 0);
        fault("x", 0);
        fault("K05,c1;011", 0);
        fault("k", 1);
        fault("k7", 1);
        fault("k/5,c1;011", 1);
        fault("k0", 2);
        fault("k6", 2);
        fault("k00,c1;011", 2);
        fault("k04,c1;011", 2);
        fault("k61,c1;011", 2);
        fault("k69", 2);
        fault("k1x", 2);
        fault("k1:", 2);
        fault("k05", 3);
        fault("k05;011", 3);
        fault("k05c1;011", 3);
        fault("k05,", 4);
        fault("k05,x1;011", 4);
        fault("k05,k1;011", 4);
        fault("k05,1c;011", 4);
        fault("k05,c", 5);
        fault("k05,c0;011", 5);
        fault("k05,c:;011", 5);
        fault("k05,c1", 6);
        fault("k05,c1c", 6);
        fault("k05,c1,", 7);
        fault("k05,c1,;011", 7);
        fault("k05,c1;", 7);
        fault("k05,c1;6", 7);
        fault("k05,c1;/", 7);
        fault("k05,c1;0", 8);
        fault("k05,c1;00", 8);
        fault("k05,c1;0:", 8);
        fault("k05,c1;01", 9);
        fault("k05,c1;010", 9);
        fault("k05,c1;01:", 9);
        fault("k05,c1;0119", 10);
        fault("k05,c1;011,", 10);
        fault("k05,c1;011,c1", 10);
        fault("k05,c1;011;", 11);
        fault("k05,c1;011;6", 11);
        fault(five, 18);
        fault(five + ",c1;011", 18);
        fault(five + ";", 19);
        fault(full + ";", 38);
        fault(full + ";011", 38);
        fault(full + "0", 38);
    }

    private static void fault(String text, int place) {
        ChildCourt x = new ChildCourt();
        D.due(x, "court '" + text + "'", Due.tellText(x, text), -100 - place, 0);
        D.due("many(0) after '" + text + "'", x.many(0), 0);
    }

    private static void codesAreNotCutAnew() {
        String text = "k05,c1;011";
        ChildCourt x = new ChildCourt();
        Due.tellText(x, text);
        x.put(0, 0, 'k' + 256);
        D.due("a byte cell is cut as it is put", x.court(0, 0, 0, 10), 1);
        for (int lane = 1; lane < 3; lane++) {
            x.sheet(2, lane, 10);
            for (int p = 0; p < 10; p++) {
                x.put(2, p, text.charAt(p));
            }
            D.due("lane " + lane, x.court(2, lane, 0, 10), 1);
            x.put(2, 4, 'c' + 256);
            D.due("lane " + lane + " holds more than a byte", x.court(2, lane, 0, 10), -104);
        }
        x.sheet(2, 2, 3);
        x.put(2, 0, 'k');
        x.put(2, 1, '0');
        x.put(2, 2, Integer.MIN_VALUE);
        D.due("the least int is no digit", x.court(2, 2, 0, 3), -102);
        x.put(2, 2, Integer.MAX_VALUE);
        D.due("the greatest int is no digit", x.court(2, 2, 0, 3), -102);
    }

    private static void placeCountsFromTheFirstCell() {
        String text = "zzk05,c1;011zz";
        ChildCourt x = new ChildCourt();
        D.due("from 0 on", Due.tellText(x, text), -100);
        D.due("amid others", x.court(0, 0, 2, 10), 1);
        D.due("a code too many", x.court(0, 0, 2, 11), -110);
        D.due("too soon at an end", x.court(0, 0, 2, 9), -109);
        D.due("no cells at the end", x.court(0, 0, 14, 0), -100);
    }

    private static void courtRefusalsAndFaults() {
        ChildCourt x = new ChildCourt();
        D.due(x, "nothing", x.court(0, 0, 0, 0), -11, 1);
        D.due(x, "nothing, any lane", x.court(3, 2, -1, -1), -11, 1);
        D.due(x, "sheet -1", x.court(-1, 7, 0, 0), ChildCourt.UNKNOWN, 0);
        x.court(0, 0, 0, 0);
        D.due(x, "sheet 4", x.court(4, 0, 0, 0), ChildCourt.UNKNOWN, 0);
        x.court(0, 0, 0, 0);
        D.due(x, "lane 3", x.court(0, 3, -1, -1), ChildCourt.OUTSIDE, 0);
        D.due(x, "lane -1", x.court(0, -1, -1, -1), ChildCourt.OUTSIDE, 0);
        x.sheet(1, 1, 5);
        D.due(x, "cast ahead of size", x.court(1, 0, -1, -1), -12, 2);
        D.due(x, "cast, the other way", x.court(1, 2, 0, 1), -12, 2);
        D.due(x, "size ahead of index", x.court(1, 1, -1, -1), -14, 4);
        D.due(x, "size, least", x.court(1, 1, 0, Integer.MIN_VALUE), -14, 4);
        D.due(x, "index below", x.court(1, 1, -1, 1), -13, 3);
        D.due(x, "index below, none taken", x.court(1, 1, -1, 0), -13, 3);
        D.due(x, "index beyond, none taken", x.court(1, 1, 6, 0), -13, 3);
        D.due(x, "cells beyond", x.court(1, 1, 0, 6), -13, 3);
        D.due(x, "cells beyond, from the last", x.court(1, 1, 5, 1), -13, 3);
        D.due(x, "cells beyond, wrapping", x.court(1, 1, 5, Integer.MAX_VALUE), -13, 3);
        D.due(x, "index, greatest", x.court(1, 1, Integer.MAX_VALUE, Integer.MAX_VALUE), -13, 3);
        D.due(x, "index at the end, none taken", x.court(1, 1, 5, 0), -100, 0);
        D.due("still no court", x.many(0), 0);
    }

    private static void wrongTextChangesNothing() {
        ChildCourt x = Due.courtOf(FULL_TEXT, 5);
        x.treat(1, true);
        x.strike(2, true);
        x.reading(0, 1);
        D.due("a wrong text", Due.tellText(x, "k60,h1;011;"), -111);
        D.due("jurors stay", x.many(1), 5);
        D.due("minutes stay", x.many(2), 30);
        D.due("the law stays", x.many(3), 5);
        D.due("readings stay", x.many(4), 1);
        D.due("kinds stay", x.ofJuror(0, 0), 0);
        D.due("sweets stay", x.ofJuror(1, 2), 1);
        D.due("struck ones stay", x.ofJuror(2, 3), 1);
        D.due("cases stay", x.ofCase(0, 0), 1);
    }

    private static void textMakesAllAnew() {
        ChildCourt x = Due.courtOf(FULL_TEXT, 63);
        for (int j = 0; j < 5; j++) {
            x.treat(j, true);
            x.strike(j, true);
        }
        x.reading(0, 1);
        x.tell(0);
        D.due("another text", Due.tellText(x, "k06,h7,c8;525"), 1);
        D.due("law anew", x.many(3), 0);
        D.due("readings anew", x.many(4), 0);
        D.due("minutes anew", x.many(2), 6);
        for (int j = 0; j < 2; j++) {
            D.due("no sweet", x.ofJuror(j, 2), 0);
            D.due("not struck", x.ofJuror(j, 3), 0);
        }
        D.due("no third juror", x.ofJuror(2, 0), ChildCourt.UNKNOWN);
        D.due("no second case", x.ofCase(1, 0), ChildCourt.UNKNOWN);
        D.due("trace is no part of the court", x.trace(), 1);
        D.due("sheets are no part of the court", x.cell(0, 0, 0), 'k');
        D.due("the same text again", x.court(0, 0, 0, 13), 1);
    }

    private static void ofJuror() {
        ChildCourt x = Due.courtOf(FULL_TEXT, 0);
        int[] kind = {0, 1, 2, 1, 0};
        int[] age = {4, 2, 3, 6, 9};
        x.treat(3, true);
        x.strike(4, true);
        for (int j = 0; j < 5; j++) {
            D.due("kind of " + j, x.ofJuror(j, 0), kind[j]);
            D.due("age of " + j, x.ofJuror(j, 1), age[j]);
            D.due("sweet of " + j, x.ofJuror(j, 2), j == 3 ? 1 : 0);
            D.due("struck " + j, x.ofJuror(j, 3), j == 4 ? 1 : 0);
        }
        D.due("juror -1", x.ofJuror(-1, 9), ChildCourt.UNKNOWN);
        D.due("juror 5", x.ofJuror(5, 0), ChildCourt.UNKNOWN);
        D.due("what -1", x.ofJuror(0, -1), ChildCourt.OUTSIDE);
        D.due("what 4", x.ofJuror(0, 4), ChildCourt.OUTSIDE);
    }

    private static void ofCase() {
        ChildCourt x = Due.courtOf(FULL_TEXT, 0);
        int[][] cases = {{1, 4, 7}, {2, 5, 5}, {1, 3, 9}, {3, 9, 2}, {1, 6, 8}};
        for (int c = 0; c < 5; c++) {
            for (int what = 0; what < 3; what++) {
                D.due("of case " + c + " " + what, x.ofCase(c, what), cases[c][what]);
            }
        }
        D.due("case -1", x.ofCase(-1, 9), ChildCourt.UNKNOWN);
        D.due("case 5", x.ofCase(5, 0), ChildCourt.UNKNOWN);
        D.due("what -1", x.ofCase(0, -1), ChildCourt.OUTSIDE);
        D.due("what 3", x.ofCase(0, 3), ChildCourt.OUTSIDE);
    }

    private static void chalk() {
        ChildCourt x = new ChildCourt();
        D.due("chalk without a court", x.chalk(1), ChildCourt.STATE);
        D.due("outside ahead of state", x.chalk(64), ChildCourt.OUTSIDE);
        Due.tellText(x, FULL_TEXT);
        D.due("chalk(63)", x.chalk(63), 0);
        D.due("chalk(0)", x.chalk(0), 63);
        D.due("chalk(17)", x.chalk(17), 0);
        D.due("chalk(-1)", x.chalk(-1), ChildCourt.OUTSIDE);
        D.due("chalk(64)", x.chalk(64), ChildCourt.OUTSIDE);
        D.due("the law", x.many(3), 17);
    }

    private static void treatAndStrike() {
        ChildCourt x = new ChildCourt();
        D.due("treat without a court", x.treat(0, true), ChildCourt.UNKNOWN);
        D.due("strike without a court", x.strike(0, false), ChildCourt.UNKNOWN);
        Due.tellText(x, "k30,c4,h2;111");
        for (int j = -1; j < 3; j++) {
            boolean is = j == 0 || j == 1;
            D.due("treat no " + j, x.treat(j, false), is ? 0 : ChildCourt.UNKNOWN);
            D.due("treat " + j, x.treat(j, true), is ? 1 : ChildCourt.UNKNOWN);
            D.due("treat again " + j, x.treat(j, true), is ? 0 : ChildCourt.UNKNOWN);
            D.due("not struck " + j, x.ofJuror(j, 3), is ? 0 : ChildCourt.UNKNOWN);
            D.due("strike no " + j, x.strike(j, false), is ? 0 : ChildCourt.UNKNOWN);
            D.due("strike " + j, x.strike(j, true), is ? 1 : ChildCourt.UNKNOWN);
            D.due("strike again " + j, x.strike(j, true), is ? 0 : ChildCourt.UNKNOWN);
            D.due("treat back " + j, x.treat(j, false), is ? 1 : ChildCourt.UNKNOWN);
            D.due("has none " + j, x.ofJuror(j, 2), is ? 0 : ChildCourt.UNKNOWN);
            D.due("is struck " + j, x.ofJuror(j, 3), is ? 1 : ChildCourt.UNKNOWN);
            D.due("strike back " + j, x.strike(j, false), is ? 1 : ChildCourt.UNKNOWN);
        }
    }

    private static void minutes() {
        ChildCourt x = new ChildCourt();
        D.due("minutes without a court", x.minutes(5), ChildCourt.STATE);
        D.due("outside ahead of state", x.minutes(4), ChildCourt.OUTSIDE);
        Due.tellText(x, FULL_TEXT);
        D.due("minutes(5)", x.minutes(5), 30);
        D.due("minutes(60)", x.minutes(60), 5);
        D.due("minutes(4)", x.minutes(4), ChildCourt.OUTSIDE);
        D.due("minutes(61)", x.minutes(61), ChildCourt.OUTSIDE);
        D.due("it sits", x.many(2), 60);
    }

    private static void many() {
        ChildCourt x = Due.courtOf("k30,c4,h2;111;211;311", 9);
        x.reading(0, 0);
        x.reading(0, 1);
        int[] want = {ChildCourt.OUTSIDE, 3, 2, 30, 9, 2, ChildCourt.OUTSIDE};
        for (int what = -1; what < 6; what++) {
            D.due("many " + what, x.many(what), want[what + 1]);
        }
        D.due("many, least", x.many(Integer.MIN_VALUE), ChildCourt.OUTSIDE);
    }
}
