import java.util.function.IntUnaryOperator;

/**
 * The numbers that the document names as bounds, promise by promise: the last that is taken, with what it does,
 * and the first that is not. (Texts: TextTest. Each refusal and fault, with all that stays: RefusalsTest.)
 */
public final class EdgesTest {
    private static final Due D = new Due("EdgesTest");
    private static final int UNKNOWN = -1, OUTSIDE = -2, STATE = -3, FULL = -4, NONE = -9;
    private static final int MIN = Integer.MIN_VALUE, MAX = Integer.MAX_VALUE;
    private static final String LEAST = "k05,c1;011";
    private static final String MOST = "k60,s9,c9,h9,s1,h1;599;099;599;199;299";

    public static void main(String[] args) {
        promise1();
        promise2();
        promises3And4();
        promise5();
        promises6And7();
        promise8();
        promise9Home();
        promise9Precedent();
        promise9Half();
        promise9What();
        promise9Order();
        promise10();
        promises11And12();
        promise13();
        promise14();
        promise15();
        promises16And17();
        promise18();
        promise19();
        promise20();
        promise21();
        promises22And23();
        promises24And25();
        promise26();
        promise27();
        promise28();
        promise29();
        promise30();
        promise31();
        promise32();
        D.end();
    }

    /** Numbers least .. most are taken; one below, one above and the ends of int are answered otherwise. */
    private static void dueWithin(String name, int least, int most, int otherwise, IntUnaryOperator call) {
        for (int v : new int[] {least, most}) {
            int got = call.applyAsInt(v);
            D.due(name + " " + v + " is taken, answers " + got, got == otherwise ? 1 : 0, 0);
        }
        for (int v : new int[] {least - 1, most + 1, MIN, MAX}) {
            D.due(name + " " + v, call.applyAsInt(v), otherwise);
        }
    }

    /** "No COURT (no JURORS, CASES), SHEETS have nothing." */
    private static void promise1() {
        for (int lane = 0; lane < 3; lane++) {
            for (int k = 0; k < 4; k++) {
                ChildCourt x = new ChildCourt();
                D.due(x, "new: cell", x.cell(k, 0, lane), ChildCourt.LOST, 1);
                D.due(x, "new: court", x.court(k, lane, 0, 0), -11, 1);
                D.due(x, "new: sitting", x.sitting(k, lane, 0, 0, 0), -11, 1);
                D.due(x, "new: put", x.put(k, 0, 0), -11, 1);
                D.due("new: lose", x.lose(k), 0);
            }
        }
        ChildCourt x = new ChildCourt();
        for (int n = 0; n < 5; n++) {
            D.due("new: juror " + n, x.ofJuror(n, 1), UNKNOWN);
            D.due("new: case " + n, x.ofCase(n, 1), UNKNOWN);
            D.due("new: many " + n, x.many(n), 0);
        }
        D.due("new: trace", x.trace(), 0);
        D.due("new: fault", x.fault(), 0);
        D.due("new: back", x.back(0), 0);
        D.due("new: chalk", x.chalk(0), STATE);
    }

    /** "A TEXT that is taken makes all anew: the LAW is 0, nobody has a SWEET, nobody is STRUCK, no READINGS." */
    private static void promise2() {
        ChildCourt x = Due.courtOf(MOST, 63);
        for (int j = 0; j < 5; j++) {
            x.treat(j, true);
            x.strike(j, true);
        }
        for (int r = 0; r < 8; r++) {
            x.reading(4, 1);
        }
        x.minutes(7);
        D.due("the same text again", x.court(0, 0, 0, MOST.length()), 5);
        D.due("anew: minutes", x.many(2), 60);
        D.due("anew: law", x.many(3), 0);
        D.due("anew: readings", x.many(4), 0);
        D.due("anew: nothing to take back", x.back(1), OUTSIDE);
        for (int j = 0; j < 5; j++) {
            D.due("anew: sweet " + j, x.ofJuror(j, 2), 0);
            D.due("anew: struck " + j, x.ofJuror(j, 3), 0);
        }
        D.due("anew: the first reading", x.reading(0, 0), 0);
        // Fewer jurors and cases than ahead: those beyond are gone; then there are more again.
        D.due("the shortest", Due.tellText(x, LEAST), 1);
        D.due("gone: juror 1", x.ofJuror(1, 0), UNKNOWN);
        D.due("gone: case 1", x.ofCase(1, 0), UNKNOWN);
        D.due("gone: case 1 in an order", Due.sit(x, 0, 1), UNKNOWN);
        D.due("the longest", Due.tellText(x, MOST), 5);
        D.due("there: juror 4", x.ofJuror(4, 0), 1);
        D.due("there: case 4", x.ofCase(4, 0), 2);
    }

    private static void promises3And4() {
        ChildCourt least = Due.courtOf(LEAST, 0);
        ChildCourt most = Due.courtOf(MOST, 0);
        dueWithin("ofJuror of one", 0, 0, UNKNOWN, j -> least.ofJuror(j, 0));
        dueWithin("ofJuror of five", 0, 4, UNKNOWN, j -> most.ofJuror(j, 0));
        dueWithin("ofJuror what", 0, 3, OUTSIDE, what -> most.ofJuror(0, what));
        dueWithin("ofCase of one", 0, 0, UNKNOWN, c -> least.ofCase(c, 0));
        dueWithin("ofCase of five", 0, 4, UNKNOWN, c -> most.ofCase(c, 0));
        dueWithin("ofCase what", 0, 2, OUTSIDE, what -> most.ofCase(0, what));
        int[] kinds = {2, 0, 1, 2, 1};
        int[] ages = {9, 9, 9, 1, 1};
        int[] deeds = {5, 0, 5, 1, 2};
        for (int n = 0; n < 5; n++) {
            D.due("kind " + n, most.ofJuror(n, 0), kinds[n]);
            D.due("age " + n, most.ofJuror(n, 1), ages[n]);
            D.due("no sweet " + n, most.ofJuror(n, 2), 0);
            D.due("not struck " + n, most.ofJuror(n, 3), 0);
            D.due("deed " + n, most.ofCase(n, 0), deeds[n]);
            D.due("long " + n, most.ofCase(n, 1), 9);
            D.due("weight " + n, most.ofCase(n, 2), 9);
        }
        D.due("least deed", least.ofCase(0, 0), 0);
        D.due("least long", least.ofCase(0, 1), 1);
        D.due("least weight", least.ofCase(0, 2), 1);
        for (int n = 0; n < 5; n++) {
            most.treat(n, true);
            D.due("a sweet " + n, most.ofJuror(n, 2), 1);
            D.due("yet not struck " + n, most.ofJuror(n, 3), 0);
            most.treat(n, false);
            most.strike(n, true);
            D.due("no more sweet " + n, most.ofJuror(n, 2), 0);
            D.due("struck " + n, most.ofJuror(n, 3), 1);
        }
    }

    /** "The LAW becomes a set (0 .. 63): what it was." */
    private static void promise5() {
        ChildCourt x = Due.courtOf(MOST, 0);
        dueWithin("chalk", 0, 63, OUTSIDE, x::chalk);
        D.due("the last that was taken", x.many(3), 63);
        for (int set = 0; set < 64; set++) {
            D.due("chalk " + set, x.chalk(set), set == 0 ? 63 : set - 1);
            D.due("law " + set, x.many(3), set);
        }
        // Each DEED by its own bit, the first and the last among them.
        ChildCourt y = Due.courtOf("k60,c1;011;111;211;311;511", 0);
        int[] deeds = {0, 1, 2, 3, 5};
        for (int bit = 0; bit < 6; bit++) {
            y.chalk(1 << bit);
            for (int c = 0; c < 5; c++) {
                D.due("deed " + deeds[c] + " by bit " + bit, Due.sit(y, 10 + c, c), deeds[c] == bit ? 1 : 0);
            }
        }
    }

    /** "A JUROR has a SWEET (true), or not: 1; 0: it was so." "A JUROR is STRUCK (true), or not: 1; 0: it was so." */
    private static void promises6And7() {
        ChildCourt least = Due.courtOf(LEAST, 0);
        ChildCourt most = Due.courtOf(MOST, 0);
        dueWithin("treat of one", 0, 0, UNKNOWN, j -> least.treat(j, true));
        dueWithin("treat of five", 0, 4, UNKNOWN, j -> most.treat(j, true));
        dueWithin("strike of one", 0, 0, UNKNOWN, j -> least.strike(j, true));
        dueWithin("strike of five", 0, 4, UNKNOWN, j -> most.strike(j, true));
        for (int j = 0; j < 5; j++) {
            ChildCourt x = Due.courtOf(MOST, 0);
            D.due("it had none " + j, x.treat(j, false), 0);
            D.due("it was not " + j, x.strike(j, false), 0);
            D.due("treat " + j, x.treat(j, true), 1);
            D.due("strike " + j, x.strike(j, true), 1);
            D.due("it had one " + j, x.treat(j, true), 0);
            D.due("it was " + j, x.strike(j, true), 0);
            for (int other = 0; other < 5; other++) {
                D.due("sweet of " + other + " by " + j, x.ofJuror(other, 2), other == j ? 1 : 0);
                D.due("struck " + other + " by " + j, x.ofJuror(other, 3), other == j ? 1 : 0);
            }
            D.due("no more sweet " + j, x.treat(j, false), 1);
            D.due("no more struck " + j, x.strike(j, false), 1);
            D.due("nor again " + j, x.treat(j, false) + x.strike(j, false), 0);
        }
    }

    /** "The court sits v MINUTES (5 .. 60): how many it sat." */
    private static void promise8() {
        ChildCourt x = Due.courtOf(LEAST, 0);
        dueWithin("minutes", 5, 60, OUTSIDE, x::minutes);
        D.due("the last that was taken", x.many(2), 60);
        for (int v = 5; v <= 60; v++) {
            D.due("minutes " + v, x.minutes(v), v == 5 ? 60 : v - 1);
            D.due("it sits " + v, x.many(2), v);
        }
    }

    /** "If it would end behind the MINUTES the court sits, it, and all behind it, are not REACHED (and acquitted)." */
    private static void promise9Home() {
        // Ends at 9, 18, 27, 36, 45 at the latest; each bound from two sides.
        for (int v = 5; v <= 60; v++) {
            ChildCourt x = Due.courtOf("k60,c1;099;199;299;399;499", 63);
            x.minutes(v);
            int reached = Math.min(v / 9, 5);
            D.due("the last end in " + v, Due.sit(x, 1, 0, 1, 2, 3, 4), 9 * reached);
            D.due("sentenced in " + v, x.sitting(1, 2, 0, 5, 0), 9 * reached);
            for (int c = 0; c < 5; c++) {
                D.due("case " + c + " in " + v, x.sitting(1, 2, 0, 5, 10 + c), c < reached ? 1 : 2);
            }
        }
        // What would just fit behind one that does not is not reached, a precedent's minute likewise.
        ChildCourt y = Due.courtOf("k05,c1;041;122;013;214", 63);
        D.due("five minutes: 4, and 2 too many", Due.sit(y, 10, 0, 1, 2, 3), 1);
        D.due("the one too long", y.sitting(1, 2, 0, 4, 11), 2);
        D.due("behind it, of one minute", y.sitting(1, 2, 0, 4, 12), 2);
        D.due("behind that", y.sitting(1, 2, 0, 4, 13), 2);
        D.due("the last end", y.sitting(1, 2, 0, 4, 1), 4);
        D.due("sentenced", y.sitting(1, 2, 0, 4, 0), 1);
        // "(1; 0: none)": the first one does not fit, or there is none.
        ChildCourt z = Due.courtOf("k05,c1;069;011;057", 63);
        D.due("6 of 5 minutes", Due.sit(z, 1, 0, 1), 0);
        D.due("nothing is sentenced", z.sitting(1, 2, 0, 2, 0), 0);
        D.due("one not tried is no precedent", z.sitting(1, 2, 0, 2, 11), 2);
        D.due("5 of 5 minutes", Due.sit(z, 1, 2, 0), 5);
        D.due("and a precedent's minute is the sixth", z.sitting(1, 2, 0, 2, 10), 2);
        D.due("no cells", Due.sit(z, 1), 0);
    }

    /** "but 1, if one of the same DEED was tried ahead in that SITTING"; "its verdict is as that one's (nobody VOTES)". */
    private static void promise9Precedent() {
        ChildCourt x = Due.courtOf("k06,h1;041;092;093", 0);
        D.due("4, 5, 6", Due.sit(x, 1, 0, 1, 2), 6);
        D.due("acquitted at 4, so at 5 and at 6", x.sitting(1, 2, 0, 3, 0), 0);
        D.due("reached in the last minute", x.sitting(1, 2, 0, 3, 12), 0);
        x.minutes(5);
        D.due("4, 5", x.sitting(1, 2, 0, 3, 1), 5);
        D.due("a minute short", x.sitting(1, 2, 0, 3, 12), 2);
        x.minutes(60);
        D.due("another sitting knows no precedent", Due.sit(x, 1, 1), 9);
        D.due("nor its verdict", x.sitting(1, 2, 0, 1, 11), 1);
        // A sweet stays uneaten where nobody votes.
        ChildCourt y = Due.courtOf("k60,c1,s1,s1;011;012;114;118", 3);
        y.treat(1, true);
        y.treat(2, true);
        D.due("eaten in case 0", Due.sit(y, 0, 0, 2), 4);
        D.due("as the first, then eaten", Due.sit(y, 0, 0, 1, 3, 2), 12);
        D.due("the other way", Due.sit(y, 0, 3, 0, 1), 3);
    }

    /** "GUILTY, if more than half of them VOTE so": of all who are not STRUCK. */
    private static void promise9Half() {
        for (int jurors = 1; jurors <= 5; jurors++) {
            for (int hungry = 0; hungry <= jurors; hungry++) {
                String text = "k60" + ",h1".repeat(hungry) + ",c1".repeat(jurors - hungry) + ";057";
                ChildCourt x = Due.courtOf(text, 0);
                D.due(hungry + " of " + jurors, Due.sit(x, 10, 0), 2 * hungry > jurors ? 1 : 0);
                for (int struck = 0; struck < jurors; struck++) {
                    x.strike(struck, true);
                    int votes = Math.max(hungry - struck - 1, 0);
                    boolean isGuilty = 2 * votes > jurors - struck - 1;
                    D.due(text + " less " + (struck + 1), Due.sit(x, 10, 0), isGuilty ? 1 : 0);
                    D.due(text + " is reached", x.sitting(1, 2, 0, 1, 1), 5);
                }
            }
        }
    }

    /** "what (0, 1, 10 .. 14)"; "NONE: it is not in the ORDER, there is no such CASE". */
    private static void promise9What() {
        ChildCourt most = Due.courtOf(MOST, 63);
        ChildCourt least = Due.courtOf(LEAST, 63);
        Due.tellOrder(most, 4, 0);
        Due.tellOrder(least, 0);
        for (int what = -3; what < 20; what++) {
            boolean is = what == 0 || what == 1 || what >= 10 && what <= 14;
            long wantMost = what == 0 ? 18 : what == 1 ? 18 : what == 10 || what == 14 ? 1 : NONE;
            long wantLeast = what == 0 ? 1 : what == 1 ? 1 : what == 10 ? 1 : NONE;
            D.due(most, "what " + what, most.sitting(1, 2, 0, 2, what), is ? wantMost : OUTSIDE, 0);
            D.due(least, "what " + what + " of one", least.sitting(1, 2, 0, 1, what), is ? wantLeast : OUTSIDE, 0);
        }
    }

    /** "an ORDER of n cells": of each lane, from each place, none, all; "a CASE (twice: so, too)". */
    private static void promise9Order() {
        for (int lane = 0; lane < 3; lane++) {
            ChildCourt x = Due.courtOf("k60,c1;011;112;213;314;415", 63);
            x.sheet(3, lane, 60);
            for (int c = 0; c < 5; c++) {
                x.put(3, 55 + c, 4 - c);
            }
            D.due(x, "the last five of 60", x.sitting(3, lane, 55, 5, 0), 15, 0);
            D.due(x, "the last", x.sitting(3, lane, 59, 1, 0), 1, 0);
            D.due(x, "none at the end", x.sitting(3, lane, 60, 0, 0), 0, 0);
            D.due(x, "none beyond", x.sitting(3, lane, 61, 0, 0), -13, 3);
            D.due(x, "six, one twice", x.sitting(3, lane, 54, 6, 0), UNKNOWN, 0);
            D.due(x, "60, twice", x.sitting(3, lane, 0, 60, 0), UNKNOWN, 0);
            D.due(x, "one beyond", x.sitting(3, lane, 55, 6, 0), -13, 3);
            x.put(3, 54, 5);
            D.due(x, "case 5", x.sitting(3, lane, 54, 1, 0), UNKNOWN, 0);
            x.put(3, 54, -1);
            D.due(x, "case -1", x.sitting(3, lane, 54, 1, 0), UNKNOWN, 0);
            x.put(3, 54, 256 + 4);
            D.due(x, "case 260, cut to a byte", x.sitting(3, lane, 54, 1, 0), lane == 0 ? 5 : UNKNOWN, 0);
            x.put(3, 54, 65536 + 4);
            D.due(x, "case 65540, cut to a short", x.sitting(3, lane, 54, 1, 0), lane < 2 ? 5 : UNKNOWN, 0);
        }
    }

    /** "in a MINUTE (0 .. 60)"; "from MINUTE 5 times its AGE on in any case". */
    private static void promise10() {
        ChildCourt most = Due.courtOf(MOST, 63);
        ChildCourt least = Due.courtOf(LEAST, 0);
        dueWithin("votes of one", 0, 0, UNKNOWN, c -> least.votes(c, 0));
        dueWithin("votes of five", 0, 4, UNKNOWN, c -> most.votes(c, 0));
        dueWithin("votes in minute", 0, 60, OUTSIDE, minute -> most.votes(4, minute));
        D.due("all of five", most.votes(0, 0), 31);
        for (int age = 1; age <= 9; age++) {
            ChildCourt x = Due.courtOf("k05,h" + age + ",c" + age + ",s" + age + ",s" + age + ";011;111", 2);
            x.treat(0, true);
            x.treat(1, true);
            x.treat(2, true);
            for (int minute = 0; minute <= 60; minute++) {
                D.due("age " + age + " at " + minute, x.votes(0, minute), minute >= 5 * age ? 1 : 0);
                D.due("a crime, age " + age + " at " + minute, x.votes(1, minute), 1 + 2 + 8);
            }
        }
        for (int j = 0; j < 5; j++) {
            most.strike(j, true);
            D.due("less " + j, most.votes(0, 60), 31 - (2 << j) + 1);
        }
    }

    /** "SENTENCED (k -1), its k-th CASE (0 on); NONE: there are fewer. UNKNOWN: k below -1." */
    private static void promises11And12() {
        for (int cases = 1; cases <= 5; cases++) {
            // A sweet for the first one tried, the lightest ahead: most tries it first, delay the heaviest.
            StringBuilder text = new StringBuilder("k60,s1");
            for (int c = 0; c < cases; c++) {
                text.append(';').append(c).append(1).append(9 - c);
            }
            ChildCourt x = Due.courtOf(text.toString(), 63);
            x.treat(0, true);
            int all = cases * 9 - cases * (cases - 1) / 2;
            D.due("most of " + cases, x.most(-1), all - (9 - cases + 1));
            D.due("delay of " + cases, x.delay(-1), all - 9);
            for (int k = 0; k < cases; k++) {
                D.due("most " + k + " of " + cases, x.most(k), k == 0 ? cases - 1 : k - 1);
                D.due("delay " + k + " of " + cases, x.delay(k), k);
            }
            for (int k : new int[] {cases, cases + 1, 5, 6, MAX}) {
                D.due("most " + k + " of " + cases, x.most(k), NONE);
                D.due("delay " + k + " of " + cases, x.delay(k), NONE);
            }
            for (int k : new int[] {-2, -3, MIN}) {
                D.due("most " + k, x.most(k), UNKNOWN);
                D.due("delay " + k, x.delay(k), UNKNOWN);
            }
        }
    }

    /** "the fewest JURORS (who have none) ... of several the least; NONE: not by all"; "(not in it: so, too)". */
    private static void promise13() {
        for (int need = 0; need <= 5; need++) {
            // So many sweet ones among five: three of them are needed, the first three.
            ChildCourt x = Due.courtOf("k60" + ",s1".repeat(need) + ",c1".repeat(5 - need) + ";011;111", 1);
            D.due(need + " of five can be bribed", Due.bribeBy(x, 0, 0), need < 3 ? NONE : 7);
            D.due("not in it", Due.bribeBy(x, 0, 1), 0);
            D.due("by no order", Due.bribeBy(x, 0), 0);
            D.due("no crime", Due.bribeBy(x, 1, 0, 1), 0);
        }
        ChildCourt y = Due.courtOf("k60,s1,s1,s1,s1,s1;011;111", 3);
        int[] want = {7, 6, 4, 0, 0};
        for (int had = 0; had < 5; had++) {
            D.due(had + " have one", Due.bribeBy(y, 0, 0), want[had]);
            y.treat(had, true);
        }
        D.due("all have one", Due.bribeBy(y, 0, 0), 0);
        D.due("all have one, and eat it ahead", Due.bribeBy(y, 1, 0, 1), NONE);
        // One who has one is none of the set, though it would be of use no more.
        ChildCourt z = Due.courtOf("k60,s1,s1;011;111", 3);
        z.treat(0, true);
        D.due("one of two is half", Due.bribeBy(z, 0, 0), 0);
        D.due("eaten, and so would the other's be", Due.bribeBy(z, 1, 0, 1), NONE);
        D.due("ahead", Due.bribeBy(z, 1, 1, 0), 0);
        ChildCourt least = Due.courtOf(LEAST, 1);
        ChildCourt most = Due.courtOf(MOST, 63);
        Due.tellOrder(least);
        Due.tellOrder(most, 4);
        dueWithin("bribe of one", 0, 0, UNKNOWN, c -> least.bribe(c, 1, 2, 0, 0));
        dueWithin("bribe of five", 0, 4, UNKNOWN, c -> most.bribe(c, 1, 2, 0, 1));
        dueWithin("bribe by lane", 0, 2, OUTSIDE, lane -> most.bribe(0, 1, lane, 0, 1));
        dueWithin("bribe by sheet", 0, 3, UNKNOWN, k -> most.bribe(0, k, 2, 0, 1));
        D.due(most, "none at the end", most.bribe(4, 1, 2, 1, 0), 0, 0);
        D.due(most, "none beyond", most.bribe(4, 1, 2, 2, 0), -13, 3);
    }

    /** "(of those not STRUCK; where there are no more, nobody)"; "his JUROR (1; NONE: all are STRUCK)". */
    private static void promise14() {
        ChildCourt x = Due.courtOf(LEAST, 1);
        dueWithin("strikes", 0, 1, OUTSIDE, x::strikes);
        D.due("one alone: he strikes it", x.strikes(1), 0);
        D.due("nobody is left", x.strikes(0), 0);
        x.strike(0, true);
        D.due("all are struck", x.strikes(1), NONE);
        D.due("all are struck: sentenced", x.strikes(0), 0);
        D.due("it changes nothing", x.strike(0, true), 0);
        for (int left = 1; left <= 5; left++) {
            ChildCourt y = Due.courtOf("k60,c1,c1,c1,c1,c1;011;112", 3);
            for (int j = 0; j < 5 - left; j++) {
                y.strike(j, true);
            }
            D.due(left + " left: his, of several the least", y.strikes(1), 5 - left);
            D.due(left + " left: sentenced", y.strikes(0), left > 2 ? 3 : 0);
        }
        // The court, too, may strike the first, the last: the one child, so that a hungry one is left alone.
        D.due("the court strikes the first", Due.courtOf("k60,c9,h1,h1;057", 0).strikes(0), 7);
        D.due("the court strikes the last", Due.courtOf("k60,h1,h1,c9;057", 0).strikes(0), 7);
        // The last one is his where it alone matters: at 5 one of three is hungry.
        ChildCourt z = Due.courtOf("k60,c9,c9,c9,c9,h1;057", 0);
        z.strike(0, true);
        z.strike(1, true);
        D.due("his is the last", z.strikes(1), 4);
        D.due("so nothing is sentenced", z.strikes(0), 0);
    }

    /** "WORTH, and 100": of all that can be sentenced, up and down. */
    private static void promise15() {
        ChildCourt up = Due.courtOf("k60,c1;019;119;219;319;419", 63);
        dueWithin("worth of one", 0, 0, UNKNOWN, up::worth);
        D.due("the most", up.worth(0), 145);
        ChildCourt down = Due.courtOf("k60,h1,c1;059;119;219;319;419", 0);
        D.due("the least", down.worth(1), 55);
        D.due("of no worth", down.worth(0), 100);
        ChildCourt five = Due.courtOf(MOST, 63);
        dueWithin("worth of five", 0, 4, UNKNOWN, five::worth);
        down.strike(1, true);
        D.due("struck already", down.worth(1), 100);
        D.due("the last of all", down.worth(0), 145);
        down.strike(0, true);
        D.due("all are struck", down.worth(0), 100);
    }

    /** "READINGS, 8 at most, numbered by how many there are"; "The last k READINGS (0 .. as many as there are)". */
    private static void promises16And17() {
        ChildCourt least = Due.courtOf(LEAST, 1);
        ChildCourt most = Due.courtOf(MOST, 63);
        dueWithin("reading of one", 0, 0, UNKNOWN, c -> least.reading(c, 0));
        dueWithin("reading of five", 0, 4, UNKNOWN, c -> most.reading(c, 0));
        dueWithin("reading how", 0, 2, OUTSIDE, how -> most.reading(4, how));
        D.due("two and two", most.many(4), 4);
        for (int r = 4; r < 8; r++) {
            D.due("reading " + r, most.reading(r % 5, r % 3), r);
        }
        D.due("a ninth", most.reading(0, 0), FULL);
        D.due("none more", most.many(4), 8);
        for (int k = 1; k <= 8; k++) {
            ChildCourt x = Due.courtOf(MOST, 63);
            for (int r = 0; r < k; r++) {
                D.due("number", x.reading(0, 1), r);
            }
            D.due("back one more than there are", x.back(k + 1), OUTSIDE);
            D.due("back -1", x.back(-1), OUTSIDE);
            D.due("back none", x.back(0), k);
            D.due("back all but one", x.back(k - 1), 1);
            D.due("the next number", x.reading(1, 1), 1);
            D.due("back all", x.back(2), 0);
            D.due("back none of none", x.back(0), 0);
            D.due("back one of none", x.back(1), OUTSIDE);
        }
        D.due("back one of eight", most.back(1), 7);
        D.due("an eighth again", most.reading(0, 0), 7);
        D.due("a ninth again", most.reading(0, 0), FULL);
        D.due("back all of eight", most.back(8), 0);
    }

    /** "how many (what 0), the least (1), CHALK (2); NONE: there are none". */
    private static void promise18() {
        ChildCourt x = Due.courtOf("k60,c1;011;111;211;311;511", 0);
        dueWithin("codes", 0, 2, OUTSIDE, x::codes);
        int[] deeds = {0, 1, 2, 3, 5};
        int must = 0;
        D.due("no readings: all laws", x.codes(0), 64);
        D.due("no readings: the least", x.codes(1), 0);
        D.due("no readings: chalk", x.codes(2), 0);
        for (int c = 4; c >= 0; c--) {
            x.reading(c, 1);
            must |= 1 << deeds[c];
            D.due("laws by " + must, x.codes(0), 1 << c + 1);
            D.due("the least by " + must, x.codes(1), must);
            D.due("chalk by " + must, x.codes(2), must);
        }
        x.back(5);
        for (int c = 0; c < 5; c++) {
            x.reading(c, 0);
        }
        D.due("none of five deeds: laws", x.codes(0), 2);
        D.due("none of five deeds: the least", x.codes(1), 0);
        x.reading(4, 1);
        D.due("both: laws", x.codes(0), 0);
        D.due("both: the least", x.codes(1), NONE);
        D.due("both: chalk", x.codes(2), NONE);
        x.back(6);
        x.reading(4, 2);
        D.due("reached by all laws", x.codes(0), 0);
        D.due("reached by all laws: chalk", x.codes(2), NONE);
        x.minutes(5);
        x.back(1);
        // Five cases of a minute: the last ends with the fifth.
        x.reading(4, 1);
        D.due("the last is reached in five", x.codes(0), 32);
        // One that ends a minute later is read as not reached, and so is it by all laws.
        ChildCourt y = Due.courtOf("k05,c1;021;111;211;311;511", 0);
        y.reading(4, 2);
        D.due("the sixth minute", y.codes(0), 64);
        y.reading(3, 2);
        D.due("the fifth is reached", y.codes(0), 0);
    }

    /** "those (0 .. 2), in place of its own, by which all READINGS are so, as a set". */
    private static void promise19() {
        ChildCourt most = Due.courtOf(MOST, 63);
        ChildCourt least = Due.courtOf(LEAST, 0);
        dueWithin("kinds of one", 0, 0, UNKNOWN, least::kinds);
        dueWithin("kinds of five", 0, 4, UNKNOWN, most::kinds);
        D.due("no readings", most.kinds(4), 7);
        // At 4 nobody is hungry, at 5 one of age 1 is; at 9 and 10 likewise for age 2.
        for (int age = 1; age <= 2; age++) {
            for (int by = -1; by <= 0; by++) {
                int at = 5 * age + by;
                String first = at > 9 ? ";09" + 1 + ";1" + (at - 9) + 1 : ";1" + at + 1;
                ChildCourt x = Due.courtOf("k60,c" + age + first, 0);
                int c = x.many(0) - 1;
                x.reading(c, 1);
                D.due("guilty at " + at + " of age " + age, x.kinds(0), by < 0 ? 0 : 2);
                x.back(1);
                x.reading(c, 0);
                D.due("acquitted at " + at + " of age " + age, x.kinds(0), by < 0 ? 7 : 5);
                x.chalk(63);
                D.due("acquitted of a crime", x.kinds(0), 0);
                x.treat(0, true);
                D.due("acquitted by a sweet", x.kinds(0), c == 0 ? 4 : 0);
            }
        }
    }

    /** "JURORS such that, had each of them a SWEET, too (alone), all READINGS are so, as a set." */
    private static void promise20() {
        ChildCourt x = Due.courtOf("k60,c1,c1,s1,s1,s1;011", 1);
        D.due("no readings: all", x.treated(), 31);
        x.reading(0, 1);
        D.due("one sweet more leaves it guilty", x.treated(), 31);
        x.treat(2, true);
        D.due("two of five do, too", x.treated(), 31);
        x.treat(3, true);
        D.due("the third is the last", x.treated(), 15);
        x.reading(0, 0);
        D.due("both: nobody", x.treated(), 0);
        x.back(2);
        x.reading(0, 0);
        D.due("the third alone makes it so", x.treated(), 16);
        x.treat(4, true);
        D.due("it is so as it is", x.treated(), 31);
        ChildCourt y = Due.courtOf(LEAST, 1);
        y.reading(0, 1);
        D.due("a child eats none", y.treated(), 1);
        y.back(1);
        y.reading(0, 0);
        D.due("so nobody", y.treated(), 0);
    }

    /** "Shares are told as upper and lower number (above 0) in least terms." */
    private static void promise21() {
        ChildCourt least = Due.courtOf(LEAST, 1);
        ChildCourt most = Due.courtOf(MOST, 63);
        for (int c : new int[] {-1, 5, MIN, MAX}) {
            D.due("odds of " + c, most.odds(c, 0), ChildCourt.LOST);
        }
        D.due("odds of 1 of one", least.odds(1, 0), ChildCourt.LOST);
        for (int which : new int[] {-1, 2, MIN, MAX}) {
            D.due("which " + which, most.odds(4, which), ChildCourt.LOST);
        }
        D.due("one alone, if it comes: upper", least.odds(0, 0), 1);
        D.due("one alone, if it comes: lower", least.odds(0, 1), 2);
        least.chalk(0);
        D.due("never: upper", least.odds(0, 0), 0);
        D.due("never: lower", least.odds(0, 1), 1);
        // Of so many children, all who come vote so: all sets but the empty one.
        for (int jurors = 1; jurors <= 5; jurors++) {
            ChildCourt x = Due.courtOf("k60" + ",c1".repeat(jurors) + ";011;111", 2);
            D.due(jurors + " never: upper", x.odds(0, 0), 0);
            D.due(jurors + " never: lower", x.odds(0, 1), 1);
            for (int j = 0; j <= jurors; j++) {
                D.due(jurors + ": upper", x.odds(1, 0), (1 << jurors) - 1);
                D.due(jurors + ": lower", x.odds(1, 1), 1 << jurors);
                x.strike(j, true);
            }
        }
        // One hungry one among children: only where it comes alone it is more than half.
        for (int children = 1; children <= 4; children++) {
            ChildCourt x = Due.courtOf("k60,h1" + ",c1".repeat(children) + ";051", 0);
            D.due(children + " children: upper", x.odds(0, 0), 1);
            D.due(children + " children: lower", x.odds(0, 1), 2 << children);
        }
        ChildCourt half = Due.courtOf("k60,h1,h1,c1;051", 0);
        D.due("4 of 8: upper", half.odds(0, 0), 1);
        D.due("4 of 8: lower", half.odds(0, 1), 2);
        ChildCourt late = Due.courtOf("k05,c1;061", 1);
        D.due("not reached: upper", late.odds(0, 0), 0);
        D.due("not reached: lower", late.odds(0, 1), 1);
    }

    /** "A SHEET gets a new row: 1"; "a row of 0 .. 60 numbers (0 at first)"; "A SHEET has nothing: 1; 0: it had nothing." */
    private static void promises22And23() {
        ChildCourt x = new ChildCourt();
        dueWithin("sheet", 0, 3, UNKNOWN, k -> x.sheet(k, 0, 1));
        dueWithin("lane", 0, 2, OUTSIDE, lane -> x.sheet(0, lane, 1));
        dueWithin("lose", 0, 3, UNKNOWN, x::lose);
        D.due(x, "60 cells", x.sheet(0, 2, 60), 1, 0);
        D.due(x, "61 cells", x.sheet(0, 2, 61), OUTSIDE, 0);
        D.due(x, "0 cells", x.sheet(0, 2, 0), 1, 0);
        D.due(x, "-1 cells", x.sheet(0, 2, -1), -14, 4);
        for (int lane = 0; lane < 3; lane++) {
            for (int n : new int[] {0, 1, 59, 60}) {
                ChildCourt y = new ChildCourt();
                // A longer row ahead, all of it put, leaves nothing in the new one.
                y.sheet(2, 2, 60);
                for (int i = 0; i < 60; i++) {
                    y.put(2, i, -1);
                }
                D.due(y, "a row of " + n, y.sheet(2, lane, n), 1, 0);
                for (int i = 0; i < n; i++) {
                    D.due("a zero at " + i, y.cell(2, i, lane), 0);
                }
                D.due(y, "no more than " + n, y.cell(2, n, lane), ChildCourt.LOST, 3);
                D.due(y, "other sheets have nothing", y.cell(1, 0, lane), ChildCourt.LOST, 1);
                D.due("lose it", y.lose(2), 1);
                D.due("it had nothing", y.lose(2), 0);
                D.due(y, "nothing", y.cell(2, 0, lane), ChildCourt.LOST, 1);
            }
        }
    }

    /** "what comes to a cell of it is cut to its LANE". */
    private static void promises24And25() {
        int[][] cut = {{127, 127, 127, 127}, {128, -128, 128, 128}, {-128, -128, -128, -128}, {-129, 127, -129, -129},
            {255, -1, 255, 255}, {256, 0, 256, 256}, {32767, -1, 32767, 32767}, {32768, 0, -32768, 32768},
            {-32768, 0, -32768, -32768}, {-32769, -1, 32767, -32769}, {65535, -1, -1, 65535}, {65536, 0, 0, 65536},
            {MAX, -1, -1, MAX}, {MIN, 0, 0, MIN}};
        for (int lane = 0; lane < 3; lane++) {
            for (int[] c : cut) {
                for (int i : new int[] {0, 59}) {
                    ChildCourt x = new ChildCourt();
                    x.sheet(3, lane, 60);
                    D.due(x, "put " + c[0] + " at " + i, x.put(3, i, c[0]), 1, 0);
                    D.due(x, "lane " + lane + " of " + c[0], x.cell(3, i, lane), c[1 + lane], 0);
                    D.due("the other end", x.cell(3, 59 - i, lane), 0);
                }
            }
        }
        ChildCourt y = new ChildCourt();
        y.sheet(1, 1, 2);
        dueWithin("put at", 0, 1, -13, i -> y.put(1, i, 5));
        for (int i : new int[] {-1, 2, MIN, MAX}) {
            D.due(y, "cell " + i, y.cell(1, i, 1), ChildCourt.LOST, 3);
        }
        D.due(y, "the first", y.cell(1, 0, 1), 5, 0);
        D.due(y, "the last", y.cell(1, 1, 1), 5, 0);
        y.sheet(1, 1, 0);
        D.due(y, "put, no cells", y.put(1, 0, 5), -13, 3);
        D.due(y, "cell, no cells", y.cell(1, 0, 1), ChildCourt.LOST, 3);
        D.due(y, "cell, no cells, another lane", y.cell(1, 0, 0), ChildCourt.LOST, 2);
    }

    /** "n cells of a SHEET from i on go to another one (perhaps the same) from j on, as they were: n." */
    private static void promise26() {
        for (int lane = 0; lane < 3; lane++) {
            for (int i = 0; i <= 4; i++) {
                for (int j = 0; j <= 4; j++) {
                    for (int n = 0; n <= 5; n++) {
                        dueCopy(lane, i, j, n, true);
                        dueCopy(lane, i, j, n, false);
                    }
                }
            }
        }
        ChildCourt x = new ChildCourt();
        x.sheet(0, 0, 60);
        x.sheet(3, 0, 60);
        x.put(0, 0, 1);
        x.put(0, 59, 2);
        D.due(x, "all 60", x.copy(0, 0, 3, 0, 60), 60, 0);
        D.due("the first", x.cell(3, 0, 0), 1);
        D.due("the last", x.cell(3, 59, 0), 2);
        D.due(x, "61", x.copy(0, 0, 3, 0, 61), -13, 3);
        D.due(x, "none at both ends", x.copy(0, 60, 3, 60, 0), 0, 0);
        D.due(x, "none beyond the first", x.copy(0, 61, 3, 60, 0), -13, 3);
        D.due(x, "none beyond the other", x.copy(0, 60, 3, 61, 0), -13, 3);
        x.sheet(1, 1, 0);
        x.sheet(2, 1, 0);
        D.due(x, "none of none", x.copy(1, 0, 2, 0, 0), 0, 0);
        D.due(x, "one of none", x.copy(1, 0, 2, 0, 1), -13, 3);
        D.due(x, "unlike lanes, none", x.copy(1, 0, 3, 0, 0), -12, 2);
        dueWithin("copy from", 0, 3, UNKNOWN, k -> x.copy(k, 0, 1, 0, 0));
        dueWithin("copy to", 0, 3, UNKNOWN, k -> x.copy(1, 0, k, 0, 0));
    }

    private static void dueCopy(int lane, int i, int j, int n, boolean isSame) {
        int[] from = {10, 11, 12, 13};
        int[] to = isSame ? from : new int[] {20, 21, 22, 23};
        ChildCourt x = new ChildCourt();
        int other = isSame ? 0 : 3;
        x.sheet(other, lane, 4);
        x.sheet(0, lane, 4);
        for (int p = 0; p < 4; p++) {
            x.put(other, p, to[p]);
            x.put(0, p, from[p]);
        }
        boolean is = i + n <= 4 && j + n <= 4;
        String name = "copy " + i + " " + j + " " + n + (isSame ? " within" : "");
        D.due(x, name, x.copy(0, i, other, j, n), is ? n : -13, is ? 0 : 3);
        for (int p = 0; p < 4; p++) {
            boolean isCopied = is && p >= j && p < j + n;
            D.due(name + ", cell " + p, x.cell(other, p, lane), isCopied ? from[i + p - j] : to[p]);
            if (!isSame) {
                D.due(name + ", from " + p, x.cell(0, p, lane), from[p]);
            }
        }
    }

    /** "CHILD (1): AGE. HUNGRY (2): what CHILD's gives, and 100. SWEET (3): what HUNGRY's gives, and what CHILD's gives". */
    private static void promise27() {
        ChildCourt most = Due.courtOf(MOST, 63);
        dueWithin("tell", 0, 4, UNKNOWN, most::tell);
        for (int age = 1; age <= 9; age++) {
            for (int kind = 0; kind < 3; kind++) {
                ChildCourt x = Due.courtOf("k30," + "chs".charAt(kind) + age + ";111", 0);
                int[] told = {age, age + 100, age + 100 + age};
                int[] trace = {1, 2 * 31 + 1, ((3 * 31 + 2) * 31 + 1) * 31 + 1};
                D.due("tell of kind " + kind + " age " + age, x.tell(0), told[kind]);
                D.due("its trace", x.trace(), trace[kind]);
                D.due("juror 1", x.tell(1), UNKNOWN);
                D.due("juror -1", x.tell(-1), UNKNOWN);
                D.due("the trace still", x.trace(), trace[kind]);
                x.treat(0, true);
                x.strike(0, true);
                D.due("with a sweet, struck", x.tell(0), told[kind]);
            }
        }
    }

    /** "HUSHED by a lent body (4): its number; SWEET ones have their own (5): 70." */
    private static void promise28() {
        ChildCourt most = Due.courtOf(MOST, 63);
        dueWithin("hush", 0, 4, UNKNOWN, most::hush);
        for (int kind = 0; kind < 3; kind++) {
            ChildCourt x = Due.courtOf("k30" + ("," + "chs".charAt(kind) + 7).repeat(5) + ";111", 0);
            int trace = 0;
            for (int j = 0; j < 5; j++) {
                D.due("hush of kind " + kind + ", " + j, x.hush(j), kind == 2 ? 70 : j);
                trace = 31 * trace + (kind == 2 ? 5 : 4);
                D.due("its trace", x.trace(), trace);
            }
            D.due("juror 5", x.hush(5), UNKNOWN);
            D.due("juror -1", x.hush(-1), UNKNOWN);
            D.due("the trace still", x.trace(), trace);
        }
    }

    /** "A JUROR, taken as one of a kind: 1 ... CAST: it is none (each is a CHILD, too; a SWEET one is HUNGRY)." */
    private static void promise29() {
        ChildCourt most = Due.courtOf(MOST, 63);
        dueWithin("as", 0, 4, UNKNOWN, j -> most.as(j, 0));
        dueWithin("as kind", 0, 2, OUTSIDE, kind -> most.as(0, kind));
        int[] kinds = {2, 0, 1, 2, 1};
        for (int j = 0; j < 5; j++) {
            for (int kind = 0; kind < 3; kind++) {
                boolean is = kinds[j] >= kind;
                D.due(most, "as " + j + " " + kind, most.as(j, kind), is ? 1 : -12, is ? 0 : 2);
            }
        }
        D.due("no trace of it", most.trace(), 0);
    }

    /** "TRACE (an int that wraps, 0 at first, becomes 31 times it and the number)". */
    private static void promise30() {
        ChildCourt x = Due.courtOf("k30,c4,s1;111", 0);
        long wide = 0;
        int narrow = 0;
        int wrapped = 0;
        for (int t = 0; t < 60; t++) {
            x.hush(1);
            wide = 31 * (long) narrow + 5;
            narrow = (int) wide;
            wrapped += wide == narrow ? 0 : 1;
            D.due("trace of " + t, x.trace(), narrow);
        }
        D.due("it has wrapped", wrapped > 10 ? 1 : 0, 1);
        // 5 by 5 the seventh is the first that is too great: 5 times 31 to the sixth is over 2 to the 31st.
        ChildCourt y = Due.courtOf("k30,s1;111", 0);
        int[] due = {5, 160, 4965, 153920, 4771525, 147917280, 290468389};
        for (int t = 0; t < due.length; t++) {
            y.hush(0);
            D.due("trace " + t, y.trace(), due[t]);
        }
        D.due("asking leaves it", y.trace(), 290468389);
        Due.tellText(y, LEAST);
        D.due("another court leaves it", y.trace(), 290468389);
        D.due("another object's is its own", new ChildCourt().trace(), 0);
    }

    /** "The FAULT of the latest call that names one: 0: it came to none, or was refused (0 ahead of any)." */
    private static void promise31() {
        ChildCourt x = Due.courtOf("k30,c4,h2,s3;111", 0);
        x.sheet(1, 2, 1);
        int[][] ends = {
            {x.as(0, 1), x.fault(), 2}, {x.as(0, 0), x.fault(), 0},
            {x.as(0, 1), x.fault(), 2}, {x.as(3, 0), x.fault(), 0},
            {x.as(0, 1), x.fault(), 2}, {x.as(0, 3), x.fault(), 0},
            {x.put(3, 0, 0), x.fault(), 1}, {x.put(1, 0, 0), x.fault(), 0},
            {x.put(1, 1, 0), x.fault(), 3}, {x.put(4, 0, 0), x.fault(), 0},
            {x.sheet(2, 0, -1), x.fault(), 4}, {x.sheet(2, 0, 0), x.fault(), 0},
            {x.sheet(2, 0, -1), x.fault(), 4}, {x.sheet(2, 0, 61), x.fault(), 0},
            {x.copy(3, 0, 1, 0, 0), x.fault(), 1}, {x.copy(1, 0, 1, 0, 1), x.fault(), 0},
            {x.copy(1, 0, 0, 0, 0), x.fault(), 2}, {x.copy(1, 0, 4, 0, 0), x.fault(), 0},
            {x.sitting(3, 0, 0, 0, 0), x.fault(), 1}, {x.sitting(1, 2, 0, 1, 0), x.fault(), 0},
            {x.sitting(1, 2, 0, -1, 0), x.fault(), 4}, {x.sitting(1, 2, 0, 1, 9), x.fault(), 0},
            {x.bribe(0, 1, 2, 0, 2), x.fault(), 3}, {x.bribe(0, 1, 2, 0, 1), x.fault(), 0},
            {x.bribe(0, 1, 1, 0, 1), x.fault(), 2}, {x.bribe(1, 1, 2, 0, 1), x.fault(), 0},
            {x.court(3, 0, 0, 0), x.fault(), 1}, {x.court(1, 2, 0, 1), x.fault(), 0},
            {x.court(1, 0, 0, 1), x.fault(), 2}, {x.court(0, 0, 0, 16), x.fault(), 0},
            {(int) x.cell(1, 1, 2), x.fault(), 3}, {(int) x.cell(1, 0, 2), x.fault(), 0},
            {(int) x.cell(3, 0, 2), x.fault(), 1}, {(int) x.cell(1, 0, 3), x.fault(), 0}};
        for (int e = 0; e < ends.length; e++) {
            D.due("fault " + e + " of answer " + ends[e][0], ends[e][1], ends[e][2]);
        }
        x.as(0, 2);
        D.due("asked twice", x.fault() + x.fault(), 4);
    }

    /** "How many: 0 CASES, 1 JURORS, 2 MINUTES it sits, 3 the LAW, 4 READINGS (0 all without a COURT)." */
    private static void promise32() {
        ChildCourt none = new ChildCourt();
        ChildCourt most = Due.courtOf(MOST, 63);
        dueWithin("many", 0, 4, OUTSIDE, most::many);
        dueWithin("many without a court", 0, 4, OUTSIDE, none::many);
        for (int r = 0; r < 9; r++) {
            most.reading(0, 0);
        }
        int[] want = {5, 5, 60, 63, 8};
        for (int what = 0; what < 5; what++) {
            D.due("many " + what, most.many(what), want[what]);
        }
        // A text that is not taken makes no court.
        Due.tellText(none, "k05,c1;010");
        for (int what = 0; what < 5; what++) {
            D.due("many " + what + " without a court", none.many(what), 0);
        }
        int[] least = {1, 1, 5, 0, 0};
        Due.tellText(none, LEAST);
        for (int what = 0; what < 5; what++) {
            D.due("many " + what + " of the shortest", none.many(what), least[what]);
        }
    }
}
