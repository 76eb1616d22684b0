import java.util.ArrayList;
import java.util.Arrays;
import java.util.List;

/**
 * The document once more, written as plainly as can be and by other means than PageWars: VERSIONS
 * as lists, all that can be derived worked out anew from its definition, MINUTES one by one,
 * VOICES by Java's own inheritance, TEXTS by one scan with a stack. ModelTest sets both side by
 * side.
 */
public final class Model {
    private static final int LOW = -1000000;

    /** A WORD of a VERSION. */
    private record Cell(int word, int origin) {
    }

    private static class Act {
        final int n;
        final int w;
        final int minute;
        final int of;
        int score = -1;

        Act(int n, int w, int minute, int of) {
            this.n = n;
            this.w = w;
            this.minute = minute;
            this.of = of;
        }

        int kind() {
            return 0;
        }

        int does(List<Integer> t, int x) {
            t.add(10);
            return x + w;
        }

        int undoes(List<Integer> t, int x) {
            t.add(11);
            return does(t, x) * 2;
        }

        int stays(List<Integer> t, int x) {
            t.add(12);
            return undoes(t, x) - n;
        }

        int tells(List<Integer> t, int x) {
            t.add(13);
            if (n == 2) {
                throw new IllegalStateException("PARTED");
            }
            return x / (n - 2);
        }
    }

    private static class New extends Act {
        New(int n, int w, int minute, int of) {
            super(n, w, minute, of);
        }

        @Override int kind() {
            return 1;
        }

        @Override int does(List<Integer> t, int x) {
            t.add(20);
            return super.does(t, x) + 3;
        }

        @Override int stays(List<Integer> t, int x) {
            t.add(21);
            return super.stays(t, x) ^ w;
        }
    }

    private static class Back extends Act {
        Back(int n, int w, int minute, int of) {
            super(n, w, minute, of);
        }

        @Override int kind() {
            return 2;
        }

        @Override int undoes(List<Integer> t, int x) {
            t.add(30);
            return 0 - super.undoes(t, x);
        }

        @Override int tells(List<Integer> t, int x) {
            t.add(31);
            return super.tells(t, x) + does(t, 1);
        }
    }

    private static final class Half extends Back {
        Half(int n, int w, int minute, int of) {
            super(n, w, minute, of);
        }

        @Override int kind() {
            return 3;
        }

        @Override int undoes(List<Integer> t, int x) {
            t.add(40);
            return super.undoes(t, x / 2);
        }

        @Override int stays(List<Integer> t, int x) {
            t.add(41);
            return super.stays(t, x) - undoes(t, 2);
        }
    }

    private static final class Boyish extends New {
        Boyish(int n, int w, int minute, int of) {
            super(n, w, minute, of);
        }

        @Override int kind() {
            return 4;
        }

        @Override int does(List<Integer> t, int x) {
            t.add(50);
            return super.does(t, x) * 3;
        }
    }

    private static final class Mending extends New {
        Mending(int n, int w, int minute, int of) {
            super(n, w, minute, of);
        }

        @Override int kind() {
            return 5;
        }

        @Override int stays(List<Integer> t, int x) {
            t.add(60);
            return super.stays(t, x + 1);
        }

        @Override int tells(List<Integer> t, int x) {
            t.add(61);
            return stays(t, x) - super.tells(t, x);
        }
    }

    private static final class Shutting extends Act {
        Shutting(int n, int w, int minute, int of) {
            super(n, w, minute, of);
        }

        @Override int kind() {
            return 6;
        }

        @Override int does(List<Integer> t, int x) {
            t.add(70);
            return 0;
        }
    }

    private static final class Talk extends Act {
        Talk(int n, int w, int minute, int of) {
            super(n, w, minute, of);
        }

        @Override int kind() {
            return 7;
        }

        @Override int undoes(List<Integer> t, int x) {
            t.add(80);
            return super.undoes(t, x) + n;
        }

        @Override int tells(List<Integer> t, int x) {
            t.add(81);
            return super.tells(t, x) ^ 5;
        }
    }

    private int now = 0;
    private int z = 1;
    private int shutTill = 0;
    private int shutter = -1;
    private List<Act> acts = new ArrayList<>();
    private List<List<Cell>> versions = new ArrayList<>(List.of(List.of()));
    private String tape = "";
    private String[] texts = new String[8];
    private List<Integer> waiting = new ArrayList<>();
    private int[] worths = new int[61];

    private final int[] told = new int[7];
    private List<Integer> trace = new ArrayList<>();
    private final int[][] sheets = new int[4][];
    private final int[] bits = new int[4];
    private Object[] image = null;
    private int images = 0;

    private int no(int k) {
        told[k]++;
        return LOW - k;
    }

    private List<Cell> page() {
        return versions.get(versions.size() - 1);
    }

    private boolean noAct(int act) {
        return act < 0 || act >= acts.size();
    }

    private boolean noVersion(int v) {
        return v < 0 || v >= versions.size();
    }

    private static boolean noWriter(int w) {
        return w < 0 || w > 7;
    }

    // ---- acts

    public int go(int n) {
        if (n < 1 || n > 9999) {
            return no(1);
        }
        if ((long) now + n > 29999) {
            return no(3);
        }
        now += n;
        return now;
    }

    private int add(Act act, List<Cell> page) {
        acts.add(act);
        versions.add(List.copyOf(page));
        if (act.w != 7 && texts[1] != null) {
            int l = page.size();
            int d = l - versions.get(act.n).size();
            int u = 0;
            for (int i = 0; i < acts.size(); i++) {
                if (undoer(i) == act.n) {
                    u++;
                }
            }
            int sign = work(texts[1], "kwldu", act.kind(), act.w, l, d, u);
            if (sign != 0 && mays(7) && acts.size() < 60) {
                add(new Back(acts.size(), 7, now, act.n), versions.get(act.n));
            }
        }
        return act.n;
    }

    private int refusal(int w) {
        return !mays(w) ? 3 : acts.size() >= 60 ? 4 : 0;
    }

    private int tryWrite(int kind, int w, int place, int word) {
        if (kind != 1 && kind != 4 && kind != 5 || noWriter(w) || word < 1 || word > 60
                || place < 0 || place > page().size() || kind == 5 && place == page().size()) {
            return -1;
        }
        if (refusal(w) != 0) {
            return -refusal(w);
        }
        if (kind != 5 && page().size() == 20) {
            return -4;
        }
        int n = acts.size();
        List<Cell> next = new ArrayList<>(page());
        if (kind == 5) {
            next.set(place, new Cell(word, n));
            return add(new Mending(n, w, now, word), next);
        }
        next.add(place, new Cell(word, n));
        return add(kind == 1 ? new New(n, w, now, word) : new Boyish(n, w, now, word), next);
    }

    public int write(int kind, int wp, int word) {
        int answer = wp < 0 ? -1 : tryWrite(kind, wp / 100, wp % 100, word);
        return answer < 0 ? no(-answer) : answer;
    }

    private int doCut(int w, int place) {
        List<Cell> next = new ArrayList<>(page());
        Cell taken = next.remove(place);
        return add(new Act(acts.size(), w, now, taken.word()), next);
    }

    public int cut(int wp) {
        if (wp < 0 || noWriter(wp / 100) || wp % 100 >= page().size()) {
            return no(1);
        }
        int refusal = refusal(wp / 100);
        return refusal != 0 ? no(refusal) : doCut(wp / 100, wp % 100);
    }

    private int doBack(int w, int version) {
        return add(new Back(acts.size(), w, now, version), versions.get(version));
    }

    public int back(int writer, int version) {
        if (noWriter(writer) || noVersion(version)) {
            return no(1);
        }
        int refusal = refusal(writer);
        return refusal != 0 ? no(refusal) : doBack(writer, version);
    }

    public int half(int writer, int version, int n) {
        if (noWriter(writer) || noVersion(version) || n < 0 || n > 20) {
            return no(1);
        }
        int refusal = refusal(writer);
        if (refusal != 0) {
            return no(refusal);
        }
        List<Cell> next = new ArrayList<>();
        for (int i = 0; i < n && i < versions.get(version).size(); i++) {
            next.add(versions.get(version).get(i));
        }
        for (int i = n; i < page().size(); i++) {
            next.add(page().get(i));
        }
        if (next.size() > 20) {
            return no(4);
        }
        return add(new Half(acts.size(), writer, now, version), next);
    }

    public int shut(int writer, int minutes) {
        if (noWriter(writer) || minutes < 1 || minutes > 9999) {
            return no(1);
        }
        int refusal = refusal(writer);
        if (refusal != 0) {
            return no(refusal);
        }
        shutTill = now + minutes;
        shutter = writer;
        return add(new Shutting(acts.size(), writer, now, shutTill), page());
    }

    public int talk(int writer, int n) {
        if (noWriter(writer) || n < 1 || n > 999) {
            return no(1);
        }
        int refusal = refusal(writer);
        return refusal != 0 ? no(refusal) : add(new Talk(acts.size(), writer, now, n), page());
    }

    public int actIs(int act, int what) {
        if (noAct(act) || what < 0 || what > 5) {
            return no(1);
        }
        Act a = acts.get(act);
        return new int[] {a.kind(), a.w, a.minute, a.of, undoer(act), a.score}[what];
    }

    public int as(int act, int kind) {
        if (noAct(act) || kind < 0 || kind > 7) {
            return no(1);
        }
        Act a = acts.get(act);
        boolean is = kind == 0 || kind == 1 && a instanceof New || kind == 2 && a instanceof Back
                || kind == a.kind();
        return is ? a.w : no(5);
    }

    public int word(int version, int i) {
        if (noVersion(version) || i < -1 || i >= versions.get(version).size()) {
            return no(1);
        }
        List<Cell> v = versions.get(version);
        return i == -1 ? v.size() : v.get(i).word();
    }

    public int origin(int version, int i) {
        if (noVersion(version) || i < 0 || i >= versions.get(version).size()) {
            return no(1);
        }
        return versions.get(version).get(i).origin();
    }

    private boolean mays(int w) {
        if (shutTill > now && w != shutter) {
            return false;
        }
        return texts[0] == null || work(texts[0], "bwmla", backs(w), w, now % 1440,
                page().size(), (int) acts.stream().filter(a -> a.w == w).count()) != 0;
    }

    private int backs(int w) {
        return (int) acts.stream().filter(a -> a.w == w && a instanceof Back
                && now - a.minute <= 1439).count();
    }

    public int may(int writer) {
        return noWriter(writer) ? no(1) : mays(writer) ? 1 : 0;
    }

    // ---- texts, living

    public int feed(long word, int n) {
        if (n < 1 || n > 8) {
            return no(1);
        }
        if (tape.length() + n > 60) {
            return no(4);
        }
        for (int i = 0; i < n; i++) {
            tape += (char) (word >> 8 * i & 255);
        }
        return tape.length();
    }

    /** One scan: a stack of what is open, and whether the B at hand has compared already. */
    static int fault(String t, String names) {
        List<Character> open = new ArrayList<>();
        List<Boolean> outer = new ArrayList<>();
        boolean compared = false;
        boolean behind = false;
        int i = 0;
        while (i < t.length()) {
            char c = t.charAt(i);
            if (!behind) {
                if (c == '!' || c == '(') {
                    if (open.size() == 5) {
                        return i;
                    }
                    open.add(c);
                    if (c == '(') {
                        outer.add(compared);
                        compared = false;
                    }
                    i++;
                    continue;
                }
                if (c >= '0' && c <= '9') {
                    int end = i;
                    while (end < t.length() && end < i + 4 && t.charAt(end) >= '0'
                            && t.charAt(end) <= '9') {
                        end++;
                    }
                    i = end;
                } else if (names.indexOf(c) >= 0) {
                    i++;
                } else {
                    return i;
                }
                behind = true;
            } else {
                if (c == ')') {
                    if (open.isEmpty()) {
                        return i;
                    }
                    open.remove(open.size() - 1);
                    compared = outer.remove(outer.size() - 1);
                } else if ("<=>".indexOf(c) >= 0) {
                    if (compared) {
                        return i;
                    }
                    compared = true;
                    behind = false;
                } else if ("|&".indexOf(c) >= 0) {
                    compared = false;
                    behind = false;
                } else if ("+-*/%".indexOf(c) >= 0) {
                    behind = false;
                } else {
                    return i;
                }
                i++;
            }
            while (behind && !open.isEmpty() && open.get(open.size() - 1) == '!') {
                open.remove(open.size() - 1);
            }
        }
        return behind && open.isEmpty() ? -1 : i;
    }

    private static int rank(char c) {
        return c == '|' ? 1 : c == '&' ? 2 : "<=>".indexOf(c) >= 0 ? 3
                : "+-".indexOf(c) >= 0 ? 4 : "*/%".indexOf(c) >= 0 ? 5 : c == '!' ? 6 : 0;
    }

    private static void join(List<Integer> values, List<Character> signs) {
        char c = signs.remove(signs.size() - 1);
        int b = values.remove(values.size() - 1);
        if (c == '!') {
            values.add(b == 0 ? 1 : 0);
            return;
        }
        int a = values.remove(values.size() - 1);
        boolean so = c == '|' ? a != 0 || b != 0 : c == '&' ? a != 0 && b != 0
                : c == '<' ? a < b : c == '=' ? a == b : a > b;
        long value = c == '+' ? (long) a + b : c == '-' ? (long) a - b : c == '*' ? (long) a * b
                : c == '/' ? b == 0 ? 0 : (long) a / b : c == '%' ? b == 0 ? 0 : (long) a % b
                : so ? 1 : 0;
        values.add((int) value);
    }

    /** By two stacks; only for what has no FAULT. */
    static int work(String t, String names, int... named) {
        List<Integer> values = new ArrayList<>();
        List<Character> signs = new ArrayList<>();
        String whole = "(" + t + ")";
        for (int i = 0; i < whole.length(); i++) {
            char c = whole.charAt(i);
            if (c >= '0' && c <= '9') {
                int end = i;
                while (whole.charAt(end) >= '0' && whole.charAt(end) <= '9') {
                    end++;
                }
                values.add(Integer.parseInt(whole.substring(i, end)));
                i = end - 1;
            } else if (names.indexOf(c) >= 0) {
                values.add(named[names.indexOf(c)]);
            } else if (c == '(' || c == '!') {
                signs.add(c);
            } else {
                while (rank(signs.get(signs.size() - 1)) >= (c == ')' ? 1 : rank(c))) {
                    join(values, signs);
                }
                if (c == ')') {
                    signs.remove(signs.size() - 1);
                } else {
                    signs.add(c);
                }
            }
        }
        return values.get(0);
    }

    public int text(int use) {
        if (use < 0 || use > 7) {
            return no(1);
        }
        int fault = fault(tape, use == 0 ? "bwmla" : use == 1 ? "kwldu" : "lmbor");
        if (fault < 0) {
            texts[use] = tape;
        }
        tape = "";
        return fault < 0 ? 1 : -10 - fault;
    }

    public int untell(int use) {
        if (use < 0 || use > 7) {
            return no(1);
        }
        int had = texts[use] == null ? 0 : 1;
        texts[use] = null;
        return had;
    }

    private int own(int w) {
        return (int) page().stream().filter(c -> acts.get(c.origin()).w == w).count();
    }

    private void liveAs(int w) {
        z = z * 1103515245 + 12345;
        int r = (z >>> 8) % 100;
        int v = work(texts[2 + w], "lmbor", page().size(), now % 1440, backs(w), own(w), r);
        if (acts.size() == 60 || !mays(w)) {
            return;
        }
        if (v == 1) {
            tryWrite(1, w, page().size(), w + 1);
        } else if (v == 2 && !page().isEmpty()) {
            doCut(w, page().size() - 1);
        } else if (v == 3) {
            for (int i = acts.size() - 1; i >= 0; i--) {
                if (acts.get(i).w == w && acts.get(i).kind() < 6) {
                    doBack(w, i + 1);
                    break;
                }
            }
        } else if (v == 4) {
            doBack(w, 0);
        }
    }

    public int live(int n) {
        if (n < 1 || n > 60) {
            return no(1);
        }
        if (now + n > 29999) {
            return no(3);
        }
        for (int k = 0; k < n; k++) {
            for (int w = 0; w < 6; w++) {
                if (texts[2 + w] != null) {
                    liveAs(w);
                }
            }
            now++;
        }
        return now;
    }

    public int seed(int v) {
        int was = z;
        z = v;
        return was;
    }

    // ---- versions

    private boolean like(int one, int other) {
        return versions.get(one).stream().map(Cell::word).toList()
                .equals(versions.get(other).stream().map(Cell::word).toList());
    }

    private int undoer(int i) {
        if (like(i, i + 1)) {
            return -1;
        }
        for (int j = i + 1; j < acts.size(); j++) {
            if (like(i, j + 1)) {
                return j;
            }
        }
        return -1;
    }

    public int alike(int one, int other) {
        return noVersion(one) || noVersion(other) ? no(1) : like(one, other) ? 1 : 0;
    }

    private int nearness(int one, int other) {
        List<Cell> a = versions.get(one);
        List<Cell> b = versions.get(other);
        if (a.isEmpty() && b.isEmpty()) {
            return 100;
        }
        int[][] best = new int[a.size() + 1][b.size() + 1];
        for (int i = a.size() - 1; i >= 0; i--) {
            for (int j = b.size() - 1; j >= 0; j--) {
                best[i][j] = Math.max(best[i + 1][j], best[i][j + 1]);
                if (a.get(i).word() == b.get(j).word()) {
                    best[i][j] = Math.max(best[i][j], 1 + best[i + 1][j + 1]);
                }
            }
        }
        return 100 * best[0][0] / Math.max(a.size(), b.size());
    }

    public int likeness(int one, int other) {
        return noVersion(one) || noVersion(other) ? no(1) : nearness(one, other);
    }

    public int from(int version) {
        if (noVersion(version)) {
            return no(1);
        }
        if (version < 2) {
            return no(2);
        }
        int found = version - 2;
        for (int v = version - 3; v >= 0; v--) {
            if (nearness(v, version) > nearness(found, version)) {
                found = v;
            }
        }
        return found;
    }

    private List<Integer> chain(int act) {
        List<Integer> chain = new ArrayList<>();
        for (int i = act; i >= 0; i = undoer(i)) {
            chain.add(i);
        }
        return chain;
    }

    public int war(int act, int what) {
        if (noAct(act) || what < 0 || what > 3) {
            return no(1);
        }
        List<Integer> chain = chain(act);
        int[] sides = new int[2];
        for (int i = 0; i < chain.size(); i++) {
            sides[i & 1] |= 1 << acts.get(chain.get(i)).w;
        }
        return new int[] {chain.size(), chain.get(chain.size() - 1), sides[0], sides[1]}[what];
    }

    public int longest() {
        if (acts.isEmpty()) {
            return no(2);
        }
        int found = acts.size() - 1;
        int most = 0;
        for (int i = acts.size() - 1; i >= 0; i--) {
            int length = chain(i).size();
            if (length >= most) {
                most = length;
                found = i;
            }
        }
        return found;
    }

    private int readAt(int minute) {
        int found = 0;
        for (Act a : acts) {
            if (a.minute <= minute) {
                found = a.n + 1;
            }
        }
        return found;
    }

    private int staying(int act) {
        int sum = 0;
        for (int minute = 0; minute < now; minute++) {
            for (Cell c : versions.get(readAt(minute))) {
                sum += c.origin() == act ? 1 : 0;
            }
        }
        return sum;
    }

    public int stays(int act) {
        return noAct(act) ? no(1) : staying(act);
    }

    private int off(int w) {
        int[] undoers = acts.stream().filter(a -> a.w == w).mapToInt(a -> undoer(a.n))
                .filter(u -> u >= 0 && acts.get(u).w != w).sorted().toArray();
        return undoers.length < 3 ? no(2) : acts.get(undoers[2]).minute;
    }

    public int writerIs(int writer, int what) {
        if (noWriter(writer) || what < 0 || what > 4) {
            return no(1);
        }
        switch (what) {
            case 0:
                return own(writer);
            case 1:
                return acts.stream().filter(a -> a.w == writer).mapToInt(a -> staying(a.n)).sum();
            case 2:
                return (int) acts.stream().filter(a -> a.w == writer && undoer(a.n) >= 0).count();
            case 3:
                return backs(writer);
            default:
                return off(writer);
        }
    }

    public int read(int minute) {
        return minute < 0 || minute > now ? no(1) : readAt(minute);
    }

    public int wrong(int version, int from, int to) {
        if (noVersion(version) || from < 0 || from > to || to > now) {
            return no(1);
        }
        int sum = 0;
        for (int minute = from; minute < to; minute++) {
            sum += like(readAt(minute), version) ? 1 : 0;
        }
        return sum;
    }

    // ---- hands, lines, worths

    private int[] hours(int w) {
        int[] hours = new int[24];
        acts.stream().filter(a -> a.w == w).forEach(a -> hours[a.minute / 60 % 24]++);
        return hours;
    }

    public int hand(int one, int other) {
        if (noWriter(one) || noWriter(other) || one == other) {
            return no(1);
        }
        int[] a = hours(one);
        int[] b = hours(other);
        int fewer = Math.min(Arrays.stream(a).sum(), Arrays.stream(b).sum());
        if (fewer == 0) {
            return no(2);
        }
        int common = 0;
        for (int h = 0; h < 24; h++) {
            common += Math.min(a[h], b[h]);
        }
        return 100 * common / fewer;
    }

    public int score(int act, int v) {
        if (noAct(act) || v < -1 || v > 100) {
            return no(1);
        }
        int was = acts.get(act).score;
        acts.get(act).score = v;
        return was;
    }

    private int cost(int c, int x, int y) {
        int cost = 0;
        for (Act a : acts) {
            if (a.score >= 0 && a.score >= c && !(a instanceof Boyish)) {
                cost += x;
            }
            if (a.score >= 0 && a.score < c && a instanceof Boyish) {
                cost += y;
            }
        }
        return cost;
    }

    public int line(int x, int y, int what) {
        if (x < 0 || x > 99 || y < 0 || y > 99 || what < 0 || what > 1) {
            return no(1);
        }
        int found = 101;
        for (int c = 100; c >= 0; c--) {
            if (cost(c, x, y) < cost(found, x, y)) {
                found = c;
            }
        }
        return what == 0 ? found : cost(found, x, y);
    }

    public int worth(int word, int v) {
        if (word < 1 || word > 60 || v < -9 || v > 9) {
            return no(1);
        }
        int was = worths[word];
        worths[word] = v;
        return was;
    }

    private int sum(int version) {
        return versions.get(version).stream().mapToInt(c -> worths[c.word()]).sum();
    }

    public int value(int version) {
        return noVersion(version) ? no(1) : sum(version);
    }

    public int best() {
        int found = acts.size();
        for (int v = acts.size(); v >= 0; v--) {
            if (sum(v) >= sum(found)) {
                found = v;
            }
        }
        return found;
    }

    public int got(int from, int to) {
        if (from < 0 || from > to || to > now) {
            return no(1);
        }
        int sum = 0;
        for (int minute = from; minute < to; minute++) {
            sum += sum(readAt(minute));
        }
        return sum;
    }

    // ---- voices, sheets, images, what is told

    public int voice(int act, int voice, int x) {
        if (noAct(act) || voice < 0 || voice > 3) {
            return no(1);
        }
        trace = new ArrayList<>();
        Act a = acts.get(act);
        try {
            return voice == 0 ? a.does(trace, x) : voice == 1 ? a.undoes(trace, x)
                    : voice == 2 ? a.stays(trace, x) : a.tells(trace, x);
        } catch (IllegalStateException parted) {
            return no(6);
        }
    }

    public int body(int i) {
        return i < 0 || i >= trace.size() || i >= 30 ? no(2) : trace.get(i);
    }

    public int sheet(int sheet, int bits, int n) {
        if (sheet < 0 || sheet > 3 || !List.of(0, 8, 16, 32).contains(bits)) {
            return no(1);
        }
        if (bits == 0) {
            sheets[sheet] = null;
            this.bits[sheet] = 0;
            return 1;
        }
        if (n < 0) {
            return no(3);
        }
        if (n > 24) {
            return no(1);
        }
        sheets[sheet] = new int[n];
        this.bits[sheet] = bits;
        return 1;
    }

    public int put(int sheet, int i, int v) {
        if (sheet < 0 || sheet > 3) {
            return no(1);
        }
        if (sheets[sheet] == null) {
            return no(2);
        }
        if (i < 0 || i >= sheets[sheet].length) {
            return no(1);
        }
        sheets[sheet][i] = bits[sheet] == 8 ? v & 0xff : bits[sheet] == 16 ? v & 0xffff : v;
        return 1;
    }

    public int move(int sheet, int i, int other, int j, int n) {
        if (sheet < 0 || sheet > 3 || other < 0 || other > 3) {
            return no(1);
        }
        if (sheets[sheet] == null || sheets[other] == null) {
            return no(2);
        }
        if (bits[sheet] != bits[other]) {
            return no(5);
        }
        try {
            System.arraycopy(sheets[sheet], i, sheets[other], j, n);
            return n;
        } catch (IndexOutOfBoundsException beyond) {
            return no(1);
        }
    }

    public int words(int sheet, int writer) {
        if (sheet < 0 || sheet > 3 || noWriter(writer)) {
            return no(1);
        }
        if (sheets[sheet] == null) {
            return no(2);
        }
        int number = 0;
        for (int word : sheets[sheet]) {
            if (tryWrite(1, writer, page().size(), word) < 0) {
                break;
            }
            number++;
        }
        return number;
    }

    public int image() {
        int[] scores = acts.stream().mapToInt(a -> a.score).toArray();
        image = new Object[] {now, z, shutTill, shutter, List.copyOf(acts), List.copyOf(versions),
            tape, texts.clone(), List.copyOf(waiting), worths.clone(), scores};
        images++;
        return images;
    }

    @SuppressWarnings("unchecked")
    public int restore() {
        if (image == null) {
            return no(2);
        }
        now = (Integer) image[0];
        z = (Integer) image[1];
        shutTill = (Integer) image[2];
        shutter = (Integer) image[3];
        acts = new ArrayList<>((List<Act>) image[4]);
        versions = new ArrayList<>((List<List<Cell>>) image[5]);
        tape = (String) image[6];
        texts = ((String[]) image[7]).clone();
        waiting = new ArrayList<>((List<Integer>) image[8]);
        worths = ((int[]) image[9]).clone();
        for (Act a : acts) {
            a.score = ((int[]) image[10])[a.n];
        }
        return now;
    }

    public int tell(int v) {
        if (waiting.size() == 24) {
            return no(4);
        }
        waiting.add(v);
        return waiting.size();
    }

    public int check(int version) {
        List<Integer> waited = waiting;
        waiting = new ArrayList<>();
        if (noVersion(version)) {
            return no(1);
        }
        List<Integer> words = versions.get(version).stream().map(Cell::word).toList();
        int place = 0;
        while (place < words.size() && place < waited.size()
                && words.get(place).equals(waited.get(place))) {
            place++;
        }
        return place == words.size() && place == waited.size() ? 0 : 1 + place;
    }

    public int count(int what) {
        if (what < 0 || what > 7) {
            return no(1);
        }
        return new int[] {now, acts.size(), page().size(), shutTill, tape.length(),
            waiting.size(), Math.min(30, trace.size()), z}[what];
    }

    public int told(int k) {
        return k < 1 || k > 6 ? no(1) : told[k];
    }
}
