/** Promises 11 to 15: the orders of the most and the least, bribes, strikes, worth. */
public final class OrdersTest {
    private static final Due D = new Due("OrdersTest");

    public static void main(String[] args) {
        mostAndDelay();
        firstOfSeveralOrders();
        lastOfAllOrders();
        mostRefusals();
        bribes();
        bribeRefusalsAndFaults();
        strikes();
        strikesWhereFewAreLeft();
        strikesRefusals();
        worth();
        askingChangesNothing();
        D.end();
    }

    private static void dueOrder(ChildCourt x, String name, int sentenced, int[] most, int least, int[] delay) {
        D.due(name + ": most", x.most(-1), sentenced);
        D.due(name + ": delay", x.delay(-1), least);
        for (int k = 0; k < most.length; k++) {
            D.due(name + ": most " + k, x.most(k), most[k]);
            D.due(name + ": delay " + k, x.delay(k), delay[k]);
        }
        D.due(name + ": most, no more", x.most(most.length), ChildCourt.NONE);
        D.due(name + ": delay, no more", x.delay(most.length), ChildCourt.NONE);
        D.due(name + ": most, far", x.most(Integer.MAX_VALUE), ChildCourt.NONE);
        D.due(name + ": delay, far", x.delay(Integer.MAX_VALUE), ChildCourt.NONE);
    }

    private static void mostAndDelay() {
        // One hungry from minute 5 on: the case tried first, at 3, is acquitted.
        ChildCourt x = Due.courtOf("k60,h1;031;139", 0);
        dueOrder(x, "two", 9, new int[] {0, 1}, 1, new int[] {1, 0});
        ChildCourt y = Due.courtOf("k60,h1;035;132;239", 0);
        dueOrder(y, "three", 14, new int[] {1, 0, 2}, 7, new int[] {2, 0, 1});
        // The sweet is eaten in the first case.
        ChildCourt z = Due.courtOf("k60,s1;014;111;217;313", 15);
        z.treat(0, true);
        dueOrder(z, "sweet", 14, new int[] {1, 0, 2, 3}, 8, new int[] {2, 0, 1, 3});
        // Home at 9: three in 4, 1 and 4 minutes; or one in 4, and behind it the one of 9, too late.
        ChildCourt w = Due.courtOf("k09,c1;092;141;149;241;241", 63);
        dueOrder(w, "home", 11, new int[] {1, 2, 3, 0, 4}, 1, new int[] {1, 0, 2, 3, 4});
    }

    private static void firstOfSeveralOrders() {
        ChildCourt x = Due.courtOf("k60,c1;011;111;211;311;411", 63);
        dueOrder(x, "all alike", 5, new int[] {0, 1, 2, 3, 4}, 5, new int[] {0, 1, 2, 3, 4});
        ChildCourt y = Due.courtOf("k60,s1;015;115;211;311;411", 63);
        y.treat(0, true);
        dueOrder(y, "ties", 12, new int[] {2, 0, 1, 3, 4}, 8, new int[] {0, 1, 2, 3, 4});
        ChildCourt z = Due.courtOf("k60,c1;011", 0);
        dueOrder(z, "one", 0, new int[] {0}, 0, new int[] {0});
    }

    private static void lastOfAllOrders() {
        // Deeds 3 and 4 are crimes: 3 and 1 by minute 6, 5 at 15, when two are hungry, 9 at 17.
        ChildCourt x = Due.courtOf("k20,s5,h1,h3;294;129;595;331;353", 24);
        // Deeds 0, 4 and 5 are crimes: acquitted at 8 by two of four, 2 and 3 by minute 18, then home.
        ChildCourt y = Due.courtOf("k22,h3,h1,s2,h1;427;559;463;492;389", 49);
        D.due("the most, last", x.most(-1), 18);
        D.due("the least, last", y.delay(-1), 5);
        for (int k = 0; k < 5; k++) {
            D.due("the most, last " + k, x.most(k), 4 - k);
            D.due("the least, last " + k, y.delay(k), 4 - k);
        }
    }

    private static void mostRefusals() {
        ChildCourt x = new ChildCourt();
        D.due("most, no court", x.most(-1), ChildCourt.STATE);
        D.due("delay, no court", x.delay(9), ChildCourt.STATE);
        D.due("most(-2), no court", x.most(-2), ChildCourt.UNKNOWN);
        D.due("delay(-2), no court", x.delay(-2), ChildCourt.UNKNOWN);
        Due.tellText(x, "k60,c1;011");
        D.due("most(-2)", x.most(-2), ChildCourt.UNKNOWN);
        D.due("delay, least", x.delay(Integer.MIN_VALUE), ChildCourt.UNKNOWN);
    }

    private static void bribes() {
        ChildCourt x = Due.courtOf("k60,s1,s1,s1,c1;011;111;012", 3);
        D.due("two of four", Due.bribeBy(x, 0, 0), 3);
        D.due("behind another deed they are eaten", Due.bribeBy(x, 1, 0, 1), ChildCourt.NONE);
        D.due("ahead of it", Due.bribeBy(x, 1, 1, 0), 3);
        D.due("by a precedent", Due.bribeBy(x, 2, 0, 1, 2), 3);
        D.due("not in it", Due.bribeBy(x, 1, 0, 2), 0);
        D.due("no order", Due.bribeBy(x, 1), 0);
        x.treat(1, true);
        D.due("those who have one keep it", Due.bribeBy(x, 0, 0), 1);
        x.strike(0, true);
        D.due("a struck one's is of no use", Due.bribeBy(x, 0, 0), 4);
        x.treat(2, true);
        D.due("there are enough", Due.bribeBy(x, 0, 0), 0);
        x.strike(2, true);
        D.due("one of two", Due.bribeBy(x, 0, 0), 0);
        x.strike(1, true);
        D.due("not by all", Due.bribeBy(x, 0, 0), ChildCourt.NONE);
        x.chalk(2);
        D.due("no crime", Due.bribeBy(x, 0, 0), 0);
        // Fewest ahead of least: one sweet is 8, two would be 3.
        ChildCourt y = Due.courtOf("k60,c1,c1,h1,s1;011", 1);
        y.strike(0, true);
        y.strike(1, true);
        D.due("one is fewer", Due.bribeBy(y, 0, 0), 8);
        ChildCourt z = Due.courtOf("k05,c1;091;191", 3);
        D.due("not reached is not guilty", Due.bribeBy(z, 1, 0, 1), 0);
        D.due("cells amid others", amid(x), 0);
    }

    private static int amid(ChildCourt x) {
        Due.tellOrder(x, 9, 0, 9);
        return x.bribe(0, 1, 2, 1, 1);
    }

    private static void bribeRefusalsAndFaults() {
        ChildCourt x = new ChildCourt();
        D.due(x, "no court", x.bribe(0, 9, 9, -1, -1), ChildCourt.UNKNOWN, 0);
        Due.tellText(x, "k60,c1;011;112");
        x.sheet(1, 1, 3);
        x.court(3, 0, 0, 0);
        D.due(x, "case -1", x.bribe(-1, 0, 9, 0, 0), ChildCourt.UNKNOWN, 0);
        D.due(x, "case 2", x.bribe(2, 3, 0, 0, 0), ChildCourt.UNKNOWN, 0);
        D.due(x, "sheet -1", x.bribe(0, -1, 9, 0, 0), ChildCourt.UNKNOWN, 0);
        D.due(x, "sheet 4", x.bribe(0, 4, 9, 0, 0), ChildCourt.UNKNOWN, 0);
        D.due(x, "lane 3", x.bribe(0, 3, 3, -1, -1), ChildCourt.OUTSIDE, 0);
        D.due(x, "lane -1", x.bribe(0, 3, -1, -1, -1), ChildCourt.OUTSIDE, 0);
        D.due(x, "nothing", x.bribe(0, 3, 0, -1, -1), -11, 1);
        D.due(x, "another lane", x.bribe(0, 1, 0, -1, -1), -12, 2);
        D.due(x, "size", x.bribe(0, 1, 1, -1, -1), -14, 4);
        D.due(x, "index", x.bribe(0, 1, 1, -1, 0), -13, 3);
        D.due(x, "beyond", x.bribe(0, 1, 1, 3, 1), -13, 3);
        D.due(x, "twice", x.bribe(0, 1, 1, 0, 2), ChildCourt.UNKNOWN, 0);
        D.due(x, "no such case", Due.bribeBy(x, 0, 2), ChildCourt.UNKNOWN, 0);
        D.due(x, "once", x.bribe(0, 1, 2, 0, 0), 0, 0);
    }

    private static void strikes() {
        // Hungry from 5 on alone votes guilty: were it left, the court would strike for it.
        ChildCourt x = Due.courtOf("k60,c1,c1,h1;057", 0);
        D.due("strikes the hungry one", x.strikes(1), 2);
        D.due("then nothing", x.strikes(0), 0);
        // Two hungry ones of three: one stays, and the court strikes the child.
        ChildCourt y = Due.courtOf("k60,h1,h1,c1;057", 0);
        D.due("of several the least", y.strikes(1), 0);
        D.due("the court makes it guilty", y.strikes(0), 7);
        // The court must strike: of two it strikes the other one, and nobody votes.
        ChildCourt z = Due.courtOf("k60,c1,c1;057", 1);
        D.due("nobody is left", z.strikes(0), 0);
        D.due("his", z.strikes(1), 0);
        // The court strikes the one who would not vote for guilty.
        ChildCourt v = Due.courtOf("k60,h1,s1,c1;057", 1);
        v.treat(1, true);
        D.due("the court strikes the sweet one", v.strikes(0), 7);
        ChildCourt w = Due.courtOf("k60,s1,s1,c1,c1;057", 1);
        w.treat(0, true);
        w.treat(1, true);
        D.due("he strikes a child", w.strikes(1), 2);
        D.due("one of two is not enough", w.strikes(0), 0);
    }

    private static void strikesWhereFewAreLeft() {
        ChildCourt x = Due.courtOf("k60,c1,c1,h1;057", 1);
        x.strike(0, true);
        D.due("of those not struck", x.strikes(1), 1);
        x.strike(1, true);
        D.due("the last", x.strikes(1), 2);
        D.due("nobody votes", x.strikes(0), 0);
        x.strike(2, true);
        D.due("none", x.strikes(1), ChildCourt.NONE);
        D.due("sentenced by none", x.strikes(0), 0);
        ChildCourt y = Due.courtOf("k60,h1,c1,c1,c1,c1;057", 1);
        y.strike(0, true);
        D.due("those struck stay so", y.strikes(0), 7);
        D.due("his is another", y.strikes(1), 1);
    }

    private static void strikesRefusals() {
        ChildCourt x = new ChildCourt();
        D.due("no court", x.strikes(0), ChildCourt.STATE);
        D.due("what 2 ahead of no court", x.strikes(2), ChildCourt.OUTSIDE);
        Due.tellText(x, "k60,c1;011");
        D.due("what -1", x.strikes(-1), ChildCourt.OUTSIDE);
        D.due("what 2", x.strikes(2), ChildCourt.OUTSIDE);
    }

    private static void worth() {
        ChildCourt x = Due.courtOf("k60,h1,h1,c1;057", 0);
        D.due("2 of 3 less 1 of 2", x.worth(0), 107);
        D.due("likewise", x.worth(1), 107);
        D.due("2 of 3 less 2 of 2", x.worth(2), 100);
        x.strike(0, true);
        D.due("struck already", x.worth(0), 100);
        D.due("1 of 2 less 0 of 1", x.worth(1), 100);
        D.due("1 of 2 less 1 of 1", x.worth(2), 93);
        D.due("juror -1", x.worth(-1), ChildCourt.UNKNOWN);
        D.due("juror 3", x.worth(3), ChildCourt.UNKNOWN);
        D.due("no court", new ChildCourt().worth(0), ChildCourt.UNKNOWN);
        ChildCourt y = Due.courtOf("k60,c1;019;119;219;319;419", 63);
        D.due("all of it", y.worth(0), 145);
    }

    private static void askingChangesNothing() {
        ChildCourt x = Due.courtOf("k09,s1,h1,c1;034;139;231", 2);
        x.treat(0, true);
        x.strike(2, true);
        x.most(-1);
        x.delay(-1);
        x.strikes(0);
        x.worth(1);
        Due.bribeBy(x, 1, 2, 1);
        D.due("the law", x.many(3), 2);
        int[] sweet = {1, 0, 0};
        int[] struck = {0, 0, 1};
        for (int j = 0; j < 3; j++) {
            D.due("sweet " + j, x.ofJuror(j, 2), sweet[j]);
            D.due("struck " + j, x.ofJuror(j, 3), struck[j]);
        }
    }
}
