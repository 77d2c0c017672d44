/**
 * All that can be seen of an object, told as one text, so that two objects can be held side by side.
 * It takes the readings back one by one and leaves another fault(), so the object is not used afterwards.
 */
final class Snapshot {
    private final ChildCourt x;
    private final StringBuilder told = new StringBuilder();

    private Snapshot(ChildCourt x) {
        this.x = x;
    }

    static String of(ChildCourt x) {
        Snapshot s = new Snapshot(x);
        s.numbers();
        s.jurors();
        s.cases();
        s.orders();
        s.sheets();
        s.readings();
        return s.told.toString();
    }

    private void add(String name, long answer) {
        told.append(name).append(' ').append(answer).append('\n');
    }

    private void numbers() {
        add("trace", x.trace());
        for (int what = 0; what < 5; what++) {
            add("many " + what, x.many(what));
        }
    }

    private void jurors() {
        for (int j = 0; j < x.many(1); j++) {
            for (int what = 0; what < 4; what++) {
                add("juror " + j + " " + what, x.ofJuror(j, what));
            }
        }
    }

    private void cases() {
        for (int c = 0; c < x.many(0); c++) {
            for (int what = 0; what < 3; what++) {
                add("case " + c + " " + what, x.ofCase(c, what));
            }
            add("votes early " + c, x.votes(c, 0));
            add("votes late " + c, x.votes(c, 60));
            add("odds " + c, x.odds(c, 0));
        }
    }

    private void orders() {
        add("most", x.most(-1));
        add("delay", x.delay(-1));
        add("strikes", x.strikes(0));
    }

    private void sheets() {
        for (int k = 0; k < 4; k++) {
            for (int lane = 0; lane < 3; lane++) {
                add("sheet " + k + " as " + lane, x.cell(k, 0, lane));
                add("fault", x.fault());
            }
            int lane = laneOf(k);
            for (int i = 1; lane >= 0 && i < 60 && isThere(k, i, lane); i++) {
                add("cell " + k + " " + i, x.cell(k, i, lane));
            }
        }
    }

    private boolean isThere(int k, int i, int lane) {
        return x.cell(k, i, lane) != ChildCourt.LOST;
    }

    private int laneOf(int k) {
        for (int lane = 0; lane < 3; lane++) {
            if (isThere(k, 0, lane)) {
                return lane;
            }
        }
        return -1;
    }

    private void readings() {
        for (int left = x.many(4); left > 0; left = x.back(1)) {
            add("laws by " + left, x.codes(0));
            add("the least by " + left, x.codes(1));
            add("treated by " + left, x.treated());
        }
    }
}
