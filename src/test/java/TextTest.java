import java.util.regex.Matcher;
import java.util.regex.Pattern;

/**
 * Promise 2 and part 1 of the terms: which texts are taken, and the first fault of those that are not. What is
 * due is told by a pattern: codes go on in a text, if the pattern's matching came to their end wanting more.
 */
public final class TextTest {
    private static final Due D = new Due("TextTest");
    private static final Pattern WHOLE =
        Pattern.compile("k(?:0[5-9]|[1-5][0-9]|60)(?:,[chs][1-9]){1,5}(?:;[0-5][1-9][1-9]){1,5}", Pattern.DOTALL);
    private static final String SHORTEST = "k05,c1;011";
    private static final String LONGEST = "k60,c1,h9,s5,h1,c9;011;599;351;219;192";
    private static final String[] TEXTS = {SHORTEST, LONGEST, "k59,s1,s2,s3,s4,s5;511", "k10,h9;099;199;299;399;499",
        "k30,c4,h2,s3;147;255;139"};

    public static void main(String[] args) {
        wholeTexts();
        endsTooSoon();
        anotherCode();
        aCodeMore();
        aCodeLess();
        allMinutes();
        howManyJurorsAndCases();
        lettersAndDigits();
        codesOfWiderLanes();
        atTheEndOfALongRow();
        moreCellsThanAnyText();
        D.end();
    }

    private static boolean isText(CharSequence codes) {
        return WHOLE.matcher(codes).matches();
    }

    private static boolean begins(CharSequence codes) {
        Matcher m = WHOLE.matcher(codes);
        return m.matches() || m.hitEnd();
    }

    /** How many cases, or -100 less the first fault. */
    private static int dueOf(String codes) {
        for (int p = 0; p < codes.length(); p++) {
            if (!begins(codes.substring(0, p + 1))) {
                return -100 - p;
            }
        }
        return isText(codes) ? codes.length() - codes.replace(";", "").length() : -100 - codes.length();
    }

    private static void check(String codes) {
        ChildCourt x = new ChildCourt();
        int want = dueOf(codes);
        D.due(x, "court '" + codes + "'", Due.tellText(x, codes), want, 0);
        D.due("cases of '" + codes + "'", x.many(0), Math.max(want, 0));
        D.due("minutes of '" + codes + "'", x.many(2), want > 0 ? Integer.parseInt(codes.substring(1, 3)) : 0);
    }

    private static void wholeTexts() {
        for (String text : TEXTS) {
            D.due("the pattern takes " + text, isText(text) ? 1 : 0, 1);
            check(text);
        }
        D.due("the longest text", LONGEST.length(), 38);
    }

    private static void endsTooSoon() {
        for (String text : TEXTS) {
            for (int n = 0; n < text.length(); n++) {
                check(text.substring(0, n));
            }
        }
    }

    private static void anotherCode() {
        for (String text : TEXTS) {
            for (int p = 0; p < text.length(); p++) {
                // A byte holds -128 .. 127; codes below 0 begin no text.
                for (char code = 0; code < 128; code++) {
                    check(text.substring(0, p) + code + text.substring(p + 1));
                }
            }
        }
    }

    private static void aCodeMore() {
        for (String text : TEXTS) {
            for (int p = 0; p <= text.length(); p++) {
                for (char code : "kchs,;0123456789:/ ".toCharArray()) {
                    check(text.substring(0, p) + code + text.substring(p));
                }
            }
        }
    }

    private static void aCodeLess() {
        for (String text : TEXTS) {
            for (int p = 0; p < text.length(); p++) {
                check(text.substring(0, p) + text.substring(p + 1));
            }
        }
    }

    private static void allMinutes() {
        for (int v = 0; v < 100; v++) {
            String two = "" + v / 10 + v % 10;
            int want = v >= 5 && v <= 60 ? 1 : v < 70 ? -102 : -101;
            ChildCourt x = new ChildCourt();
            D.due(x, "minutes " + two, Due.tellText(x, "k" + two + ",c1;011"), want, 0);
            D.due("it sits " + two, x.many(2), want == 1 ? v : 0);
        }
        // With a first digit that begins none the second is not come to; with one that does it is.
        due("k7", -101);
        due("k6", -102);
        due("k0", -102);
        due("k6a", -102);
        due("k7a", -101);
    }

    private static void due(String codes, int want) {
        ChildCourt x = new ChildCourt();
        D.due(x, "court '" + codes + "'", Due.tellText(x, codes), want, 0);
    }

    private static void howManyJurorsAndCases() {
        for (int jurors = 0; jurors < 8; jurors++) {
            for (int cases = 0; cases < 7; cases++) {
                String codes = "k45" + ",h3".repeat(jurors) + ";123".repeat(cases);
                int want = cases;
                if (jurors == 0) {
                    want = -103;
                } else if (jurors > 5) {
                    want = -118;
                } else if (cases == 0) {
                    want = -100 - codes.length();
                } else if (cases > 5) {
                    want = -100 - 3 - 3 * jurors - 20;
                }
                ChildCourt x = new ChildCourt();
                D.due(x, jurors + " jurors, " + cases + " cases", Due.tellText(x, codes), want, 0);
                D.due("jurors of " + codes, x.many(1), want > 0 ? jurors : 0);
                D.due("cases of " + codes, x.many(0), want > 0 ? cases : 0);
            }
        }
    }

    private static void lettersAndDigits() {
        for (char code = 0; code < 128; code++) {
            int kind = "chs".indexOf(code);
            ChildCourt x = new ChildCourt();
            D.due("letter " + (int) code, Due.tellText(x, "k30," + code + "4;123"), kind < 0 ? -104 : 1);
            D.due("kind by " + (int) code, x.ofJuror(0, 0), kind < 0 ? ChildCourt.UNKNOWN : kind);
            dueDigit("k30,c", code, ";123", 1, 9, (y) -> y.ofJuror(0, 1));
            dueDigit("k30,c4;", code, "23", 0, 5, (y) -> y.ofCase(0, 0));
            dueDigit("k30,c4;1", code, "3", 1, 9, (y) -> y.ofCase(0, 1));
            dueDigit("k30,c4;12", code, "", 1, 9, (y) -> y.ofCase(0, 2));
        }
    }

    private static void dueDigit(String ahead, char code, String behind, int least, int most,
            java.util.function.ToIntFunction<ChildCourt> told) {
        ChildCourt x = new ChildCourt();
        boolean is = code >= '0' + least && code <= '0' + most;
        D.due(ahead + (int) code, Due.tellText(x, ahead + code + behind), is ? 1 : -100 - ahead.length());
        D.due(ahead + (int) code + " tells", told.applyAsInt(x), is ? code - '0' : ChildCourt.UNKNOWN);
    }

    private static void codesOfWiderLanes() {
        int[][] more = {{256, -256}, {256, -256, 32512}, {256, -256, 65536, -65536, 1 << 30, Integer.MIN_VALUE}};
        for (int lane = 0; lane < 3; lane++) {
            for (int p = 0; p < SHORTEST.length(); p++) {
                for (int by : more[lane]) {
                    ChildCourt x = new ChildCourt();
                    tell(x, 2, lane, 0, SHORTEST);
                    x.put(2, p, SHORTEST.charAt(p) + by);
                    // A byte is cut as it comes to its cell, so it is the code itself.
                    int want = lane == 0 ? 1 : -100 - p;
                    D.due(x, "lane " + lane + " code at " + p + " and " + by, x.court(2, lane, 0, 10), want, 0);
                }
            }
        }
    }

    private static void tell(ChildCourt x, int k, int lane, int from, String text) {
        x.sheet(k, lane, from + text.length());
        for (int p = 0; p < text.length(); p++) {
            x.put(k, from + p, text.charAt(p));
        }
    }

    private static void atTheEndOfALongRow() {
        for (int lane = 0; lane < 3; lane++) {
            ChildCourt x = new ChildCourt();
            tell(x, 3, lane, 22, LONGEST);
            D.due(x, "the last 38 of 60", x.court(3, lane, 22, 38), 5, 0);
            D.due(x, "one beyond", x.court(3, lane, 22, 39), -13, 3);
            D.due(x, "one sooner, a zero ahead", x.court(3, lane, 21, 39), -100, 0);
            D.due(x, "one later", x.court(3, lane, 23, 37), -100, 0);
            D.due(x, "one case less", x.court(3, lane, 22, 34), 4, 0);
            D.due("cases then", x.many(0), 4);
            D.due(x, "one code less", x.court(3, lane, 22, 37), -137, 0);
            D.due("cases still", x.many(0), 4);
        }
    }

    private static void moreCellsThanAnyText() {
        for (char code : ",;0k".toCharArray()) {
            ChildCourt x = new ChildCourt();
            String codes = LONGEST + String.valueOf(code).repeat(22);
            D.due(x, "60 codes", Due.tellText(x, codes), -138, 0);
            D.due(x, "39 codes", x.court(0, 0, 0, 39), -138, 0);
            D.due(x, "38 codes", x.court(0, 0, 0, 38), 5, 0);
        }
        ChildCourt y = new ChildCourt();
        y.sheet(1, 1, 60);
        D.due(y, "60 zeroes", y.court(1, 1, 0, 60), -100, 0);
    }
}
