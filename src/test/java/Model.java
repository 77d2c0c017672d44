import java.util.ArrayList;
import java.util.Arrays;
import java.util.HashMap;
import java.util.List;
import java.util.Map;
import java.util.TreeSet;
import java.util.regex.Matcher;
import java.util.regex.Pattern;

/**
 * The document told a second time, by other means than the program's (a pattern for texts, lists,
 * maps, recursion, a class for each kind), so that a slip in one of the two shows as a difference.
 */
final class Model {
    private static final Pattern TEXT =
        Pattern.compile("k(0[5-9]|[1-5][0-9]|60)(,[chs][1-9]){1,5}(;[0-5][1-9][1-9]){1,5}");

    /** What answers a call is: a refusal or a fault ends the call at once. */
    private static final class Ends extends RuntimeException {
        private static final long serialVersionUID = 1L;
        final int answer;
        final int fault;

        Ends(int answer, int fault) {
            super(null, null, false, false);
            this.answer = answer;
            this.fault = fault;
        }
    }

    private static class Child {
        int age;

        boolean guilty(boolean crime, int minute, boolean[] sweet) {
            return crime;
        }

        int tell(Model m) {
            return child(m);
        }

        final int child(Model m) {
            m.trace = 31 * m.trace + 1;
            return age;
        }

        int hush(Model m, int number) {
            m.trace = 31 * m.trace + 4;
            return number;
        }
    }

    private static class Hungry extends Child {
        @Override
        boolean guilty(boolean crime, int minute, boolean[] sweet) {
            return crime || minute / 5 >= age;
        }

        @Override
        int tell(Model m) {
            m.trace = 31 * m.trace + 2;
            return super.tell(m) + 100;
        }
    }

    private static final class Sweet extends Hungry {
        @Override
        boolean guilty(boolean crime, int minute, boolean[] sweet) {
            boolean eats = sweet[0];
            sweet[0] = false;
            return !eats && crime;
        }

        @Override
        int tell(Model m) {
            m.trace = 31 * m.trace + 3;
            int hungry = super.tell(m);
            return hungry + child(m);
        }

        @Override
        int hush(Model m, int number) {
            m.trace = 31 * m.trace + 5;
            return 70;
        }
    }

    private static Child ofKind(int kind, int age) {
        Child made = kind == 0 ? new Child() : kind == 1 ? new Hungry() : new Sweet();
        made.age = age;
        return made;
    }

    private static int kindOf(Child j) {
        return j instanceof Sweet ? 2 : j instanceof Hungry ? 1 : 0;
    }

    /** What a sitting is held with. */
    private static final class Given {
        TreeSet<Integer> law = new TreeSet<>();
        TreeSet<Integer> sweets = new TreeSet<>();
        TreeSet<Integer> struck = new TreeSet<>();
        List<Child> jurors = new ArrayList<>();

        Given with() {
            Given g = new Given();
            g.law.addAll(law);
            g.sweets.addAll(sweets);
            g.struck.addAll(struck);
            g.jurors.addAll(jurors);
            return g;
        }
    }

    private static final class Outcome {
        final Map<Integer, Integer> verdict = new HashMap<>();
        int sentenced;
        int end;
    }

    private Given now = new Given();
    private final List<int[]> cases = new ArrayList<>();
    private final List<int[]> readings = new ArrayList<>();
    private final long[][] rows = new long[4][];
    private final int[] lanes = new int[4];
    private int sits;
    private int trace;
    private int fault;

    private static void refuse(boolean is, int answer) {
        if (is) {
            throw new Ends(answer, 0);
        }
    }

    private static void fall(boolean is, int which) {
        if (is) {
            throw new Ends(-10 - which, which);
        }
    }

    private static int setOf(TreeSet<Integer> numbers) {
        int set = 0;
        for (int k : numbers) {
            set += 1 << k;
        }
        return set;
    }

    private static TreeSet<Integer> numbersOf(int set) {
        TreeSet<Integer> numbers = new TreeSet<>();
        for (int k = 0; k < 10; k++) {
            if ((set & 1 << k) != 0) {
                numbers.add(k);
            }
        }
        return numbers;
    }

    private boolean noJuror(int j) {
        return j < 0 || j >= now.jurors.size();
    }

    private boolean noCase(int c) {
        return c < 0 || c >= cases.size();
    }

    private List<Integer> all() {
        List<Integer> order = new ArrayList<>();
        for (int c = 0; c < cases.size(); c++) {
            order.add(c);
        }
        return order;
    }

    private List<Integer> voters(Given g) {
        List<Integer> voters = new ArrayList<>();
        for (int j = 0; j < g.jurors.size(); j++) {
            if (!g.struck.contains(j)) {
                voters.add(j);
            }
        }
        return voters;
    }

    private TreeSet<Integer> vote(Given g, TreeSet<Integer> uneaten, int deed, int minute) {
        TreeSet<Integer> guilty = new TreeSet<>();
        for (int j : voters(g)) {
            boolean[] sweet = {uneaten.contains(j)};
            if (g.jurors.get(j).guilty(g.law.contains(deed), minute, sweet)) {
                guilty.add(j);
            }
            if (!sweet[0]) {
                uneaten.remove(j);
            }
        }
        return guilty;
    }

    private Outcome sit(Given g, List<Integer> order) {
        Outcome out = new Outcome();
        TreeSet<Integer> uneaten = new TreeSet<>(g.sweets);
        Map<Integer, Integer> tried = new HashMap<>();
        int p = 0;
        for (; p < order.size(); p++) {
            int[] c = cases.get(order.get(p));
            int ends = out.end + (tried.containsKey(c[0]) ? 1 : c[1]);
            if (ends > sits) {
                break;
            }
            out.end = ends;
            if (!tried.containsKey(c[0])) {
                double share = vote(g, uneaten, c[0], ends).size();
                tried.put(c[0], share > voters(g).size() / 2.0 ? 1 : 0);
            }
            out.verdict.put(order.get(p), tried.get(c[0]));
            out.sentenced += tried.get(c[0]) * c[2];
        }
        for (; p < order.size(); p++) {
            out.verdict.put(order.get(p), 2);
        }
        return out;
    }

    private boolean asRead(Given g) {
        Outcome out = sit(g, all());
        for (int[] r : readings) {
            if (out.verdict.get(r[0]) != r[1]) {
                return false;
            }
        }
        return true;
    }

    private void orders(List<Integer> head, List<Integer> rest, List<List<Integer>> into) {
        if (rest.isEmpty()) {
            into.add(new ArrayList<>(head));
        }
        for (int p = 0; p < rest.size(); p++) {
            List<Integer> longer = new ArrayList<>(head);
            List<Integer> fewer = new ArrayList<>(rest);
            longer.add(fewer.remove(p));
            orders(longer, fewer, into);
        }
    }

    private int firstFault(int[] codes) {
        StringBuilder text = new StringBuilder();
        for (int p = 0; p < codes.length; p++) {
            text.append(codes[p] < 0 || codes[p] > 127 ? '?' : (char) codes[p]);
            Matcher m = TEXT.matcher(text);
            if (!m.matches() && !m.hitEnd()) {
                return p;
            }
        }
        return TEXT.matcher(text).matches() ? -1 : codes.length;
    }

    private int[] cells(int sheet, int lane, int i, int n) {
        fall(rows[sheet] != null && lanes[sheet] != lane, 2);
        fall(rows[sheet] == null, 1);
        fall(n < 0, 4);
        fall(i < 0 || i > rows[sheet].length || (long) i + n > rows[sheet].length, 3);
        int[] taken = new int[n];
        for (int p = 0; p < n; p++) {
            taken[p] = (int) rows[sheet][i + p];
        }
        return taken;
    }

    private List<Integer> order(int[] cells) {
        refuse(cases.isEmpty(), -3);
        List<Integer> order = new ArrayList<>();
        for (int c : cells) {
            refuse(noCase(c) || order.contains(c), -1);
            order.add(c);
        }
        return order;
    }

    private int court(int sheet, int lane, int i, int n) {
        refuse(sheet < 0 || sheet > 3, -1);
        refuse(lane < 0 || lane > 2, -2);
        int[] codes = cells(sheet, lane, i, n);
        int place = firstFault(codes);
        refuse(place >= 0, -100 - place);
        now = new Given();
        cases.clear();
        readings.clear();
        sits = (codes[1] - '0') * 10 + codes[2] - '0';
        for (int p = 3; p < n; p++) {
            if (codes[p] == ',') {
                now.jurors.add(ofKind("chs".indexOf(codes[p + 1]), codes[p + 2] - '0'));
            }
            if (codes[p] == ';') {
                cases.add(new int[] {codes[p + 1] - '0', codes[p + 2] - '0', codes[p + 3] - '0'});
            }
        }
        return cases.size();
    }

    private int ofJuror(int j, int what) {
        refuse(noJuror(j), -1);
        refuse(what < 0 || what > 3, -2);
        int[] of = {kindOf(now.jurors.get(j)), now.jurors.get(j).age, now.sweets.contains(j) ? 1 : 0,
            now.struck.contains(j) ? 1 : 0};
        return of[what];
    }

    private int ofCase(int c, int what) {
        refuse(noCase(c), -1);
        refuse(what < 0 || what > 2, -2);
        return cases.get(c)[what];
    }

    private int chalk(int set) {
        refuse(set < 0 || set > 63, -2);
        refuse(cases.isEmpty(), -3);
        int was = setOf(now.law);
        now.law = numbersOf(set);
        return was;
    }

    private int mark(TreeSet<Integer> set, int j, boolean is) {
        refuse(noJuror(j), -1);
        return (is ? set.add(j) : set.remove(j)) ? 1 : 0;
    }

    private int minutes(int v) {
        refuse(v < 5 || v > 60, -2);
        refuse(cases.isEmpty(), -3);
        int was = sits;
        sits = v;
        return was;
    }

    private int sitting(int sheet, int lane, int i, int n, int what) {
        refuse(sheet < 0 || sheet > 3, -1);
        refuse(lane < 0 || lane > 2, -2);
        refuse(!Arrays.asList(0, 1, 10, 11, 12, 13, 14).contains(what), -2);
        Outcome out = sit(now, order(cells(sheet, lane, i, n)));
        return what == 0 ? out.sentenced : what == 1 ? out.end : out.verdict.getOrDefault(what - 10, -9);
    }

    private int votes(int c, int minute) {
        refuse(noCase(c), -1);
        refuse(minute < 0 || minute > 60, -2);
        return setOf(vote(now, new TreeSet<>(now.sweets), cases.get(c)[0], minute));
    }

    private int best(int k, boolean most) {
        refuse(k < -1, -1);
        refuse(cases.isEmpty(), -3);
        List<List<Integer>> orders = new ArrayList<>();
        orders(new ArrayList<>(), all(), orders);
        List<Integer> best = orders.get(0);
        for (List<Integer> order : orders) {
            int more = sit(now, order).sentenced - sit(now, best).sentenced;
            if (most ? more > 0 : more < 0) {
                best = order;
            }
        }
        return k < 0 ? sit(now, best).sentenced : k < best.size() ? best.get(k) : -9;
    }

    private int bribe(int c, int sheet, int lane, int i, int n) {
        refuse(noCase(c), -1);
        refuse(sheet < 0 || sheet > 3, -1);
        refuse(lane < 0 || lane > 2, -2);
        List<Integer> order = order(cells(sheet, lane, i, n));
        for (int size = 0; size <= now.jurors.size(); size++) {
            for (int set = 0; set < 1 << now.jurors.size(); set++) {
                TreeSet<Integer> more = numbersOf(set);
                Given g = now.with();
                boolean fits = more.size() == size && !g.sweets.removeAll(more);
                g.sweets.addAll(more);
                if (fits && sit(g, order).verdict.getOrDefault(c, 0) != 1) {
                    return set;
                }
            }
        }
        return -9;
    }

    private int sentencedIf(int... struckToo) {
        Given g = now.with();
        for (int j : struckToo) {
            g.struck.add(j);
        }
        return sit(g, all()).sentenced;
    }

    private int strikes(int what) {
        refuse(what < 0 || what > 1, -2);
        refuse(cases.isEmpty(), -3);
        int his = -9;
        int least = sentencedIf();
        for (int f : voters(now)) {
            int most = voters(now).size() == 1 ? sentencedIf(f) : 0;
            for (int j : voters(now)) {
                most = j == f ? most : Math.max(most, sentencedIf(f, j));
            }
            if (his == -9 || most < least) {
                his = f;
                least = most;
            }
        }
        return what == 0 ? least : his;
    }

    private int worth(int j) {
        refuse(noJuror(j), -1);
        return sentencedIf() - sentencedIf(j) + 100;
    }

    private int reading(int c, int how) {
        refuse(noCase(c), -1);
        refuse(how < 0 || how > 2, -2);
        refuse(readings.size() == 8, -4);
        readings.add(new int[] {c, how});
        return readings.size() - 1;
    }

    private int back(int k) {
        refuse(k < 0 || k > readings.size(), -2);
        for (int t = 0; t < k; t++) {
            readings.remove(readings.size() - 1);
        }
        return readings.size();
    }

    private int codes(int what) {
        refuse(what < 0 || what > 2, -2);
        refuse(cases.isEmpty(), -3);
        List<Integer> laws = new ArrayList<>();
        for (int law = 0; law < 64; law++) {
            Given g = now.with();
            g.law = numbersOf(law);
            if (asRead(g)) {
                laws.add(law);
            }
        }
        if (what == 0 || laws.isEmpty()) {
            return what == 0 ? laws.size() : -9;
        }
        int chalk = laws.get(0);
        for (int law : laws) {
            chalk = numbersOf(law).size() < numbersOf(chalk).size() ? law : chalk;
        }
        return what == 1 ? laws.get(0) : chalk;
    }

    private int kinds(int j) {
        refuse(noJuror(j), -1);
        TreeSet<Integer> kinds = new TreeSet<>();
        for (int kind = 0; kind < 3; kind++) {
            Given g = now.with();
            g.jurors.set(j, ofKind(kind, now.jurors.get(j).age));
            if (asRead(g)) {
                kinds.add(kind);
            }
        }
        return setOf(kinds);
    }

    private int treated() {
        refuse(cases.isEmpty(), -3);
        TreeSet<Integer> treated = new TreeSet<>();
        for (int j = 0; j < now.jurors.size(); j++) {
            Given g = now.with();
            g.sweets.add(j);
            if (asRead(g)) {
                treated.add(j);
            }
        }
        return setOf(treated);
    }

    private int odds(int c, int which) {
        refuse(noCase(c), -1);
        refuse(which < 0 || which > 1, -2);
        int sets = 1 << now.jurors.size();
        int guilty = 0;
        for (int struck = 0; struck < sets; struck++) {
            Given g = now.with();
            g.struck = numbersOf(struck);
            guilty += sit(g, all()).verdict.get(c) == 1 ? 1 : 0;
        }
        for (int lower = 1;; lower++) {
            if (guilty * lower % sets == 0) {
                return which == 0 ? guilty * lower / sets : lower;
            }
        }
    }

    private int sheet(int k, int lane, int n) {
        refuse(k < 0 || k > 3, -1);
        refuse(lane < 0 || lane > 2 || n > 60, -2);
        fall(n < 0, 4);
        rows[k] = new long[n];
        lanes[k] = lane;
        return 1;
    }

    private int lose(int k) {
        refuse(k < 0 || k > 3, -1);
        boolean had = rows[k] != null;
        rows[k] = null;
        return had ? 1 : 0;
    }

    private int put(int k, int i, int v) {
        refuse(k < 0 || k > 3, -1);
        fall(rows[k] == null, 1);
        fall(i < 0 || i >= rows[k].length, 3);
        rows[k][i] = lanes[k] == 0 ? (byte) v : lanes[k] == 1 ? (short) v : v;
        return 1;
    }

    private int cell(int k, int i, int lane) {
        refuse(k < 0 || k > 3, -1);
        refuse(lane < 0 || lane > 2, -2);
        fall(rows[k] != null && lanes[k] != lane, 2);
        fall(rows[k] == null, 1);
        fall(i < 0 || i >= rows[k].length, 3);
        return (int) rows[k][i];
    }

    private int copy(int k, int i, int other, int j, int n) {
        refuse(k < 0 || k > 3 || other < 0 || other > 3, -1);
        fall(rows[k] == null || rows[other] == null, 1);
        fall(lanes[k] != lanes[other], 2);
        fall(i < 0 || j < 0 || n < 0, 3);
        fall((long) i + n > rows[k].length || (long) j + n > rows[other].length, 3);
        long[] were = rows[k].clone();
        for (int p = 0; p < n; p++) {
            rows[other][j + p] = were[i + p];
        }
        return n;
    }

    private int tell(int j) {
        refuse(noJuror(j), -1);
        return now.jurors.get(j).tell(this);
    }

    private int hush(int j) {
        refuse(noJuror(j), -1);
        return now.jurors.get(j).hush(this, j);
    }

    private int as(int j, int kind) {
        refuse(noJuror(j), -1);
        refuse(kind < 0 || kind > 2, -2);
        fall(kindOf(now.jurors.get(j)) < kind, 2);
        return 1;
    }

    private int many(int what) {
        refuse(what < 0 || what > 4, -2);
        int[] of = {cases.size(), now.jurors.size(), sits, setOf(now.law), readings.size()};
        return of[what];
    }

    /** The answer to a call told by its name and numbers; a truth value is 1 or 0. */
    long call(String name, int[] a) {
        boolean namesFaults = Arrays.asList("court", "sitting", "bribe", "sheet", "put", "cell", "copy", "as").contains(name);
        boolean isLong = name.equals("cell") || name.equals("odds");
        int answer;
        int came = 0;
        boolean ended = false;
        try {
            answer = answer(name, a);
        } catch (Ends e) {
            answer = e.answer;
            came = e.fault;
            ended = true;
        }
        if (namesFaults) {
            fault = came;
        }
        return ended && isLong ? Long.MIN_VALUE : answer;
    }

    private int answer(String name, int[] a) {
        switch (name) {
            case "court": return court(a[0], a[1], a[2], a[3]);
            case "ofJuror": return ofJuror(a[0], a[1]);
            case "ofCase": return ofCase(a[0], a[1]);
            case "chalk": return chalk(a[0]);
            case "treat": return mark(now.sweets, a[0], a[1] == 1);
            case "strike": return mark(now.struck, a[0], a[1] == 1);
            case "minutes": return minutes(a[0]);
            case "sitting": return sitting(a[0], a[1], a[2], a[3], a[4]);
            case "votes": return votes(a[0], a[1]);
            case "most": return best(a[0], true);
            case "delay": return best(a[0], false);
            case "bribe": return bribe(a[0], a[1], a[2], a[3], a[4]);
            case "strikes": return strikes(a[0]);
            case "worth": return worth(a[0]);
            case "reading": return reading(a[0], a[1]);
            case "back": return back(a[0]);
            case "codes": return codes(a[0]);
            case "kinds": return kinds(a[0]);
            case "treated": return treated();
            case "odds": return odds(a[0], a[1]);
            case "sheet": return sheet(a[0], a[1], a[2]);
            case "lose": return lose(a[0]);
            case "put": return put(a[0], a[1], a[2]);
            case "cell": return cell(a[0], a[1], a[2]);
            case "copy": return copy(a[0], a[1], a[2], a[3], a[4]);
            case "tell": return tell(a[0]);
            case "hush": return hush(a[0]);
            case "as": return as(a[0], a[1]);
            case "trace": return trace;
            case "fault": return fault;
            case "many": return many(a[0]);
            default: throw new IllegalStateException(name);
        }
    }
}
