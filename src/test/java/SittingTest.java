/** Promises 9 and 10: sittings by orders, and who votes. */
public final class SittingTest {
    private static final Due D = new Due("SittingTest");

    public static void main(String[] args) {
        endsAtHome();
        precedents();
        hunger();
        sweetsAreEatenOnce();
        moreThanHalf();
        notInTheOrder();
        refusalsAndFaults();
        votes();
        votesRefusals();
        D.end();
    }

    private static void endsAtHome() {
        ChildCourt x = Due.courtOf("k10,c1;041;162;213;314", 63);
        D.due("just in time", Due.sit(x, 1, 0, 1), 10);
        D.due("both guilty", Due.sit(x, 0, 0, 1), 3);
        D.due("a minute too late", Due.sit(x, 1, 0, 1, 2), 10);
        D.due("not reached", Due.sit(x, 12, 0, 1, 2), 2);
        D.due("not reached weighs nothing", Due.sit(x, 0, 0, 1, 2), 3);
        x.minutes(9);
        D.due("all behind it are not reached", Due.sit(x, 13, 0, 1, 3), 2);
        D.due("nor the one itself", Due.sit(x, 11, 0, 1, 3), 2);
        D.due("the last that is reached", Due.sit(x, 1, 0, 1, 3), 4);
        D.due("the first is tried", Due.sit(x, 10, 0, 1, 3), 1);
        x.minutes(5);
        D.due("none is reached", Due.sit(x, 1, 1, 0), 0);
        D.due("nor sentenced", Due.sit(x, 0, 1, 0), 0);
        D.due("second likewise", Due.sit(x, 10, 1, 0), 2);
    }

    private static void precedents() {
        // One hungry from minute 5 on: what was acquitted earlier stays so, and takes but a minute.
        ChildCourt x = Due.courtOf("k20,h1;041;092;113", 0);
        D.due("the first, too early", Due.sit(x, 10, 0, 1), 0);
        D.due("the second as the first", Due.sit(x, 11, 0, 1), 0);
        D.due("takes but one", Due.sit(x, 1, 0, 1), 5);
        D.due("guilty first", Due.sit(x, 11, 1, 0), 1);
        D.due("then the other, too", Due.sit(x, 10, 1, 0), 1);
        D.due("in ten", Due.sit(x, 1, 1, 0), 10);
        D.due("sentenced both", Due.sit(x, 0, 1, 0), 3);
        D.due("another deed is no precedent", Due.sit(x, 12, 0, 1, 2), 1);
        x.minutes(8);
        D.due("a case not reached is no precedent", Due.sit(x, 10, 1, 0), 2);
        D.due("by one minute it is reached", Due.sit(x, 1, 0, 1, 2), 6);
        x.minutes(5);
        D.due("a precedent comes too late, too", Due.sit(x, 11, 2, 0, 1), 2);
        D.due("what ends with the minutes is reached", Due.sit(x, 10, 2, 0, 1), 1);
        // The second one of a deed eats no sweet, since nobody votes.
        ChildCourt y = Due.courtOf("k60,s1;011;012;113", 63);
        y.treat(0, true);
        D.due("sweet for the first", Due.sit(y, 10, 0, 1, 2), 0);
        D.due("as the first", Due.sit(y, 11, 0, 1, 2), 0);
        D.due("eaten", Due.sit(y, 12, 0, 1, 2), 1);
        D.due("guilty first stays guilty", Due.sit(y, 0, 2, 0, 1), 3);
    }

    private static void hunger() {
        ChildCourt x = Due.courtOf("k60,h2;091;111;211", 0);
        D.due("at 9 not", Due.sit(x, 10, 0, 1), 0);
        D.due("at 10 hungry", Due.sit(x, 11, 0, 1), 1);
        x.chalk(1);
        D.due("a crime at 9", Due.sit(x, 10, 0, 1), 1);
        D.due("crime or not at 10", Due.sit(x, 0, 0, 1), 2);
        // A sweet one is hungry by kind, but votes as a child.
        ChildCourt y = Due.courtOf("k60,s1;091;111", 0);
        D.due("a sweet one is not hungry", Due.sit(y, 0, 0, 1), 0);
        y.treat(0, true);
        D.due("nor with a sweet", Due.sit(y, 0, 0, 1), 0);
        // A sweet does nothing for the others.
        ChildCourt z = Due.courtOf("k60,h1,c1;091", 1);
        z.treat(0, true);
        z.treat(1, true);
        D.due("sweets of others", Due.sit(z, 0, 0), 1);
    }

    private static void sweetsAreEatenOnce() {
        ChildCourt x = Due.courtOf("k60,s1;011;112;213", 7);
        x.treat(0, true);
        D.due("eaten in the first", Due.sit(x, 0, 0, 1, 2), 5);
        D.due("in each sitting anew", Due.sit(x, 0, 0, 1, 2), 5);
        D.due("it has it still", x.ofJuror(0, 2), 1);
        D.due("another order", Due.sit(x, 0, 2, 1, 0), 3);
        x.chalk(6);
        D.due("eaten where there is no crime, too", Due.sit(x, 0, 0, 1, 2), 5);
        // A struck one does not vote, so it eats nothing.
        ChildCourt y = Due.courtOf("k60,s1,c1,c1;011", 1);
        y.treat(0, true);
        D.due("two of three", Due.sit(y, 0, 0), 1);
        y.strike(1, true);
        D.due("one of two", Due.sit(y, 0, 0), 0);
        y.strike(0, true);
        D.due("one of one", Due.sit(y, 0, 0), 1);
    }

    private static void moreThanHalf() {
        ChildCourt x = Due.courtOf("k60,h1,h1,c1,c1,c1;057", 0);
        D.due("2 of 5", Due.sit(x, 0, 0), 0);
        x.strike(4, true);
        D.due("2 of 4", Due.sit(x, 0, 0), 0);
        x.strike(3, true);
        D.due("2 of 3", Due.sit(x, 0, 0), 7);
        x.strike(0, true);
        D.due("1 of 2", Due.sit(x, 10, 0), 0);
        x.strike(2, true);
        D.due("1 of 1", Due.sit(x, 10, 0), 1);
        x.strike(1, true);
        x.chalk(63);
        D.due("0 of 0", Due.sit(x, 10, 0), 0);
        D.due("but it is reached", Due.sit(x, 1, 0), 5);
    }

    private static void notInTheOrder() {
        ChildCourt x = Due.courtOf("k60,c1;011;112;213", 7);
        D.due("no order", Due.sit(x, 0), 0);
        D.due("no end", Due.sit(x, 1), 0);
        for (int c = 0; c < 5; c++) {
            D.due("case " + c + " of none", Due.sit(x, 10 + c), ChildCourt.NONE);
            D.due("case " + c + " of two", Due.sit(x, 10 + c, 2, 0), c == 0 || c == 2 ? 1 : ChildCourt.NONE);
        }
        Due.tellOrder(x, 9, 2, 0, 9);
        D.due("cells amid others", x.sitting(1, 2, 1, 2, 0), 4);
        D.due("no cells at the end", x.sitting(1, 2, 4, 0, 0), 0);
        x.sheet(3, 0, 2);
        x.put(3, 0, 1);
        x.put(3, 1, 258);
        D.due("a byte cell is cut", x.sitting(3, 0, 0, 2, 0), 5);
    }

    private static void refusalsAndFaults() {
        ChildCourt x = new ChildCourt();
        x.sheet(1, 1, 3);
        D.due(x, "sheet -1", x.sitting(-1, 9, 0, 0, 9), ChildCourt.UNKNOWN, 0);
        D.due(x, "sheet 4", x.sitting(4, 9, 0, 0, 9), ChildCourt.UNKNOWN, 0);
        D.due(x, "lane 3", x.sitting(1, 3, -1, -1, 0), ChildCourt.OUTSIDE, 0);
        D.due(x, "lane -1", x.sitting(1, -1, -1, -1, 0), ChildCourt.OUTSIDE, 0);
        int[] outside = {Integer.MIN_VALUE, -1, 2, 9, 15, Integer.MAX_VALUE};
        for (int what : outside) {
            D.due(x, "what " + what, x.sitting(0, 0, -1, -1, what), ChildCourt.OUTSIDE, 0);
        }
        D.due(x, "nothing", x.sitting(0, 2, -1, -1, 0), -11, 1);
        D.due(x, "another lane", x.sitting(1, 2, -1, -1, 1), -12, 2);
        D.due(x, "size", x.sitting(1, 1, -1, -1, 10), -14, 4);
        D.due(x, "index", x.sitting(1, 1, -1, 0, 14), -13, 3);
        D.due(x, "index beyond", x.sitting(1, 1, 4, 0, 0), -13, 3);
        D.due(x, "cells beyond", x.sitting(1, 1, 1, 3, 0), -13, 3);
        D.due(x, "wrapping", x.sitting(1, 1, 3, Integer.MAX_VALUE, 0), -13, 3);
        D.due(x, "no court", x.sitting(1, 1, 0, 3, 0), ChildCourt.STATE, 0);
        D.due(x, "no court, no cells", x.sitting(1, 1, 3, 0, 0), ChildCourt.STATE, 0);
        Due.tellText(x, "k60,c1;011;112");
        x.court(0, 2, 0, 0);
        D.due(x, "twice", x.sitting(1, 1, 0, 2, 0), ChildCourt.UNKNOWN, 0);
        D.due(x, "case 2", Due.sit(x, 0, 0, 2), ChildCourt.UNKNOWN, 0);
        D.due(x, "case -1", Due.sit(x, 0, -1), ChildCourt.UNKNOWN, 0);
        D.due(x, "case of the least number", Due.sit(x, 0, Integer.MIN_VALUE), ChildCourt.UNKNOWN, 0);
        D.due(x, "case 32", Due.sit(x, 0, 0, 32), ChildCourt.UNKNOWN, 0);
        D.due(x, "a whole row", Due.sit(x, 0, new int[60]), ChildCourt.UNKNOWN, 0);
        D.due(x, "once each", Due.sit(x, 0, 1, 0), 0, 0);
    }

    private static void votes() {
        ChildCourt x = Due.courtOf("k05,c1,h2,s3,s4,h5;011;122", 1);
        x.treat(2, true);
        D.due("crime", x.votes(0, 0), 1 + 2 + 8 + 16);
        D.due("crime, late", x.votes(0, 60), 1 + 2 + 8 + 16);
        D.due("the sweet is there still", x.ofJuror(2, 2), 1);
        D.due("no crime at 0", x.votes(1, 0), 0);
        D.due("at 9", x.votes(1, 9), 0);
        D.due("at 10", x.votes(1, 10), 2);
        D.due("at 24", x.votes(1, 24), 2);
        D.due("at 25", x.votes(1, 25), 18);
        D.due("at 60", x.votes(1, 60), 18);
        x.strike(1, true);
        x.strike(3, true);
        D.due("struck ones do not", x.votes(0, 0), 17);
        D.due("nor hungry", x.votes(1, 60), 16);
        Due.sit(x, 0, 0);
        D.due("after a sitting the sweet is there", x.votes(0, 0), 17);
        x.treat(2, false);
        D.due("without a sweet", x.votes(0, 0), 21);
    }

    private static void votesRefusals() {
        ChildCourt x = new ChildCourt();
        D.due("no court", x.votes(0, 99), ChildCourt.UNKNOWN);
        Due.tellText(x, "k60,c1;011;112");
        D.due("case -1", x.votes(-1, 99), ChildCourt.UNKNOWN);
        D.due("case 2", x.votes(2, 0), ChildCourt.UNKNOWN);
        D.due("minute -1", x.votes(0, -1), ChildCourt.OUTSIDE);
        D.due("minute 61", x.votes(0, 61), ChildCourt.OUTSIDE);
    }
}
