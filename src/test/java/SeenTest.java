/** Promises 16 to 21: readings, which law, which kind, whose sweets, odds. */
public final class SeenTest {
    private static final Due D = new Due("SeenTest");

    public static void main(String[] args) {
        readingsAndBack();
        readingRefusals();
        codes();
        codesRefusals();
        kinds();
        treated();
        odds();
        notReached();
        askingChangesNothing();
        D.end();
    }

    private static void readingsAndBack() {
        ChildCourt x = Due.courtOf("k60,c1;011;112", 0);
        for (int r = 0; r < 8; r++) {
            D.due("reading " + r, x.reading(r % 2, r % 3), r);
        }
        D.due("a ninth", x.reading(0, 0), ChildCourt.FULL);
        D.due("unknown ahead of full", x.reading(2, 0), ChildCourt.UNKNOWN);
        D.due("outside ahead of full", x.reading(0, 3), ChildCourt.OUTSIDE);
        D.due("eight", x.many(4), 8);
        D.due("back 9", x.back(9), ChildCourt.OUTSIDE);
        D.due("back -1", x.back(-1), ChildCourt.OUTSIDE);
        D.due("back 0", x.back(0), 8);
        D.due("back 3", x.back(3), 5);
        D.due("the next number", x.reading(0, 0), 5);
        D.due("back 6", x.back(6), 0);
        D.due("back 1 of none", x.back(1), ChildCourt.OUTSIDE);
        D.due("back, greatest", x.back(Integer.MAX_VALUE), ChildCourt.OUTSIDE);
        D.due("back, least", x.back(Integer.MIN_VALUE), ChildCourt.OUTSIDE);
        // The last ones go, not the first.
        x.reading(0, 1);
        x.reading(0, 0);
        x.back(1);
        D.due("the first is left", x.codes(1), 1);
    }

    private static void readingRefusals() {
        ChildCourt x = new ChildCourt();
        D.due("no court", x.reading(0, 9), ChildCourt.UNKNOWN);
        D.due("back 0 without a court", x.back(0), 0);
        D.due("back 1 without a court", x.back(1), ChildCourt.OUTSIDE);
        Due.tellText(x, "k60,c1;011");
        D.due("case -1", x.reading(-1, 9), ChildCourt.UNKNOWN);
        D.due("case 1", x.reading(1, 0), ChildCourt.UNKNOWN);
        D.due("how -1", x.reading(0, -1), ChildCourt.OUTSIDE);
        D.due("how 3", x.reading(0, 3), ChildCourt.OUTSIDE);
        D.due("none were taken", x.many(4), 0);
    }

    private static void dueCodes(ChildCourt x, String name, int count, int least, int chalk) {
        D.due(name + ": how many", x.codes(0), count);
        D.due(name + ": the least", x.codes(1), least);
        D.due(name + ": chalk", x.codes(2), chalk);
    }

    private static void codes() {
        ChildCourt x = Due.courtOf("k60,c1;011;112;513", 9);
        dueCodes(x, "no readings", 64, 0, 0);
        x.reading(2, 1);
        dueCodes(x, "deed 5", 32, 32, 32);
        x.reading(0, 0);
        dueCodes(x, "deed 5, not 0", 16, 32, 32);
        x.reading(1, 1);
        dueCodes(x, "deeds 5, 1, not 0", 8, 34, 34);
        x.reading(1, 1);
        dueCodes(x, "read twice", 8, 34, 34);
        x.reading(1, 0);
        dueCodes(x, "read unlike", 0, ChildCourt.NONE, ChildCourt.NONE);
        D.due("the law stays", x.many(3), 9);
        // A hungry one votes without a law.
        ChildCourt y = Due.courtOf("k60,h1;051", 0);
        y.reading(0, 1);
        dueCodes(y, "hungry", 64, 0, 0);
        y.reading(0, 0);
        dueCodes(y, "hungry, yet acquitted", 0, ChildCourt.NONE, ChildCourt.NONE);
    }

    private static void codesRefusals() {
        ChildCourt x = new ChildCourt();
        D.due("no court", x.codes(0), ChildCourt.STATE);
        D.due("what 3 ahead of no court", x.codes(3), ChildCourt.OUTSIDE);
        Due.tellText(x, "k60,c1;011");
        D.due("what -1", x.codes(-1), ChildCourt.OUTSIDE);
        D.due("what 3", x.codes(3), ChildCourt.OUTSIDE);
    }

    private static void kinds() {
        ChildCourt x = Due.courtOf("k60,c1;051", 0);
        D.due("no readings", x.kinds(0), 7);
        x.reading(0, 1);
        D.due("guilty without a law", x.kinds(0), 2);
        x.back(1);
        x.reading(0, 0);
        D.due("acquitted", x.kinds(0), 5);
        x.chalk(1);
        D.due("acquitted of a crime", x.kinds(0), 0);
        x.treat(0, true);
        D.due("by a sweet", x.kinds(0), 4);
        x.back(1);
        x.reading(0, 1);
        D.due("guilty, with a sweet", x.kinds(0), 3);
        x.reading(0, 0);
        D.due("by none", x.kinds(0), 0);
        D.due("its own kind stays", x.ofJuror(0, 0), 0);
        // Another one's kind stays as it is, whatever was asked ahead.
        ChildCourt y = Due.courtOf("k60,c1,h9;051", 0);
        y.reading(0, 0);
        D.due("one of two", y.kinds(0), 7);
        D.due("the other", y.kinds(1), 7);
        y.strike(1, true);
        D.due("alone", y.kinds(0), 5);
        D.due("a struck one's kind is of no weight", y.kinds(1), 7);
        D.due("juror -1", y.kinds(-1), ChildCourt.UNKNOWN);
        D.due("juror 2", y.kinds(2), ChildCourt.UNKNOWN);
        D.due("no court", new ChildCourt().kinds(0), ChildCourt.UNKNOWN);
    }

    private static void treated() {
        ChildCourt x = Due.courtOf("k60,s1,c1;011;112", 3);
        D.due("no readings", x.treated(), 3);
        x.reading(0, 0);
        D.due("who had one", x.treated(), 1);
        x.reading(1, 1);
        D.due("for the first case alone", x.treated(), 1);
        x.reading(0, 1);
        D.due("nobody", x.treated(), 0);
        x.back(3);
        x.reading(0, 1);
        D.due("who had none of use", x.treated(), 2);
        x.treat(0, true);
        D.due("those who have one have it", x.treated(), 0);
        x.back(1);
        x.reading(0, 0);
        D.due("any one more, too", x.treated(), 3);
        // Each alone, not all of them.
        ChildCourt y = Due.courtOf("k60,s1,s1,s1,c1;011", 1);
        y.reading(0, 0);
        D.due("one sweet is not enough", y.treated(), 0);
        y.treat(2, true);
        D.due("with another one's", y.treated(), 3);
        D.due("sweets stay", y.ofJuror(0, 2) + y.ofJuror(1, 2), 0);
        D.due("no court", new ChildCourt().treated(), ChildCourt.STATE);
    }

    private static void dueOdds(String text, int law, int sweet, int c, int upper, int lower) {
        ChildCourt x = Due.courtOf(text, law);
        for (int j = 0; j < 5; j++) {
            x.treat(j, (sweet >> j & 1) == 1);
        }
        D.due("upper of " + text, x.odds(c, 0), upper);
        D.due("lower of " + text, x.odds(c, 1), lower);
        x.strike(0, true);
        D.due("whoever is struck, upper of " + text, x.odds(c, 0), upper);
        D.due("whoever is struck, lower of " + text, x.odds(c, 1), lower);
    }

    private static void odds() {
        dueOdds("k60,c1;011", 1, 0, 0, 1, 2);
        dueOdds("k60,c1;011", 0, 0, 0, 0, 1);
        dueOdds("k60,c1,c1;011", 1, 0, 0, 3, 4);
        dueOdds("k60,c1,c1,h1;051", 0, 0, 0, 1, 8);
        dueOdds("k60,h1,h1,c1;051", 0, 0, 0, 1, 2);
        dueOdds("k60,s1,c1;011", 1, 1, 0, 1, 4);
        dueOdds("k60,s1,c1;011;112", 3, 1, 1, 3, 4);
        dueOdds("k60,c1,c1,c1,c1,c1;011", 1, 0, 0, 31, 32);
        dueOdds("k05,c1,c1;091", 1, 0, 0, 0, 1);
        ChildCourt x = new ChildCourt();
        D.due("no court", x.odds(0, 0), ChildCourt.LOST);
        Due.tellText(x, "k60,c1;011");
        D.due("case -1", x.odds(-1, 0), ChildCourt.LOST);
        D.due("case 1", x.odds(1, 1), ChildCourt.LOST);
        D.due("which -1", x.odds(0, -1), ChildCourt.LOST);
        D.due("which 2", x.odds(0, 2), ChildCourt.LOST);
        x.court(3, 0, 0, 0);
        x.odds(9, 9);
        D.due("odds names no fault", x.fault(), 1);
    }

    private static void notReached() {
        ChildCourt x = Due.courtOf("k05,c1;091;111", 3);
        x.reading(1, 2);
        D.due("not reached by any law", x.codes(0), 64);
        x.reading(0, 0);
        D.due("acquitted is another reading", x.codes(0), 0);
        D.due("for the kinds, too", x.kinds(0), 0);
        x.back(1);
        D.due("taken back", x.kinds(0), 7);
        x.minutes(10);
        D.due("in more minutes it is reached", x.codes(0), 0);
    }

    private static void askingChangesNothing() {
        ChildCourt x = Due.courtOf("k60,s1,h1,c1;051;161", 1);
        x.treat(0, true);
        x.strike(2, true);
        x.reading(0, 1);
        x.codes(0);
        x.kinds(1);
        x.treated();
        x.odds(0, 0);
        D.due("the law", x.many(3), 1);
        D.due("readings", x.many(4), 1);
        int[] kind = {2, 1, 0};
        for (int j = 0; j < 3; j++) {
            D.due("kind " + j, x.ofJuror(j, 0), kind[j]);
            D.due("sweet " + j, x.ofJuror(j, 2), j == 0 ? 1 : 0);
            D.due("struck " + j, x.ofJuror(j, 3), j == 2 ? 1 : 0);
        }
        D.due("a sitting is as it was", Due.sit(x, 0, 0, 1), 0);
    }
}
