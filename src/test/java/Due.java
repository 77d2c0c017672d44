/** Counts answers that are not the ones due, and makes the courts and orders that tests need. */
final class Due {
    private final String name;
    private int asked;
    private int wrong;

    Due(String name) {
        this.name = name;
    }

    void due(String call, long got, long want) {
        asked++;
        if (got != want) {
            wrong++;
            System.out.println(name + ": " + call + " answered " + got + ", due is " + want);
        }
    }

    /** A call that names FAULTS: its answer, and what fault() tells then. */
    void due(ChildCourt x, String call, long got, long want, int fault) {
        due(call, got, want);
        due("fault() after " + call, x.fault(), fault);
    }

    void end() {
        System.out.println(name + ": " + asked + " answers, " + wrong + " not as due");
        if (wrong != 0 || asked == 0) {
            System.exit(1);
        }
    }

    /** Sheet 0 gets the text as bytes; what court() answers to it. */
    static int tellText(ChildCourt x, String text) {
        x.sheet(0, 0, text.length());
        for (int p = 0; p < text.length(); p++) {
            x.put(0, p, text.charAt(p));
        }
        return x.court(0, 0, 0, text.length());
    }

    static ChildCourt courtOf(String text, int law) {
        ChildCourt x = new ChildCourt();
        if (tellText(x, text) < 1 || x.chalk(law) != 0) {
            throw new IllegalStateException("the test's own text is wrong: " + text);
        }
        return x;
    }

    /** Sheet 1 gets the order as ints. */
    static void tellOrder(ChildCourt x, int... order) {
        x.sheet(1, 2, order.length);
        for (int p = 0; p < order.length; p++) {
            x.put(1, p, order[p]);
        }
    }

    static int sit(ChildCourt x, int what, int... order) {
        tellOrder(x, order);
        return x.sitting(1, 2, 0, order.length, what);
    }

    static int bribeBy(ChildCourt x, int c, int... order) {
        tellOrder(x, order);
        return x.bribe(c, 1, 2, 0, order.length);
    }
}
