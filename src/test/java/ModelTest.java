import java.lang.reflect.Method;
import java.util.ArrayList;
import java.util.HashMap;
import java.util.List;
import java.util.Map;
import java.util.Random;

/** PageWars and the Model get the same calls, run by run, and each answer must be the same. */
public final class ModelTest {
    private static final int RUNS = 3000;
    /** What an object is used for at most; what later calls answer is free. */
    private static final int CALLS = 512;
    private static final String[] NAMES = {"bwmla", "kwldu", "lmbor"};

    /** How often which call comes, beside those of which every call asks in equal measure. */
    private static final String[] OFTEN = {"write", "write", "write", "write", "cut", "back", "back",
        "half", "go", "go", "live", "score", "worth", "put", "words", "tell"};
    private static final Map<String, Method> FACE = new HashMap<>();
    private static final Map<String, Method> MODEL = new HashMap<>();
    private static final List<String> CALL_NAMES = new ArrayList<>();

    private final Random random;
    private final PageWars page = new PageWars();
    private final Model model = new Model();
    private final StringBuilder told = new StringBuilder();
    private final int stride;
    private boolean same = true;
    private int called;

    private ModelTest(int run) {
        random = new Random(run);
        // Some runs go through many days, most stay within few, where more is at stake.
        stride = random.nextInt(8) == 0 ? 9999 : random.nextBoolean() ? 700 : 20;
    }

    private int below(int n) {
        return random.nextInt(n);
    }

    /** Mostly from low to high, seldom beside it, and at times far off. */
    private int near(int low, int high) {
        int dice = below(60);
        if (dice == 0) {
            return low - 1 - below(3);
        }
        if (dice == 1) {
            return high + 1 + below(3);
        }
        if (dice == 2 && below(4) == 0) {
            return random.nextInt();
        }
        return low + below(high - low + 1);
    }

    private int anyNumber() {
        int dice = below(6);
        return dice == 0 ? random.nextInt() : dice == 1 ? Integer.MIN_VALUE
                : dice == 2 ? Integer.MAX_VALUE : below(41) - 20;
    }

    private int version() {
        return near(0, model.count(1));
    }

    private int act() {
        return near(0, Math.max(0, model.count(1) - 1));
    }

    private int word() {
        return below(3) == 0 ? near(1, 60) : near(1, 4);
    }

    /** A TEXT of the USE, by the grammar, of some depth. */
    private String level(int level, int depth, String names) {
        String[] signs = {"|", "&", "<=>", "+-", "*/%"};
        if (level == 5) {
            int dice = below(depth > 0 ? 10 : 7);
            if (dice < 3) {
                return Integer.toString(below(below(4) == 0 ? 10000 : 5));
            }
            if (dice < 7) {
                return names.substring(below(1) + below(5)).substring(0, 1);
            }
            return dice == 7 ? "!" + level(5, depth - 1, names)
                    : "(" + level(0, depth - 1, names) + ")";
        }
        StringBuilder text = new StringBuilder(level(level + 1, depth, names));
        int more = below(4) == 0 ? 1 + (level == 2 ? 0 : below(2)) : 0;
        for (int k = 0; k < more; k++) {
            text.append(signs[level].charAt(below(signs[level].length())));
            text.append(level(level + 1, depth, names));
        }
        return text.toString();
    }

    private String anyText(int use) {
        String names = NAMES[Math.max(0, Math.min(use, 2))];
        if (use >= 2 && below(2) == 0) {
            String[] ways = {"r%5", "(r<30)*1+(r>90)*4", "1+(l>3)*(r%4)", "3-(o=0)*2", "(b<2)*3+1",
                "(m%3=0)*(r%5)", "r/20"};
            return ways[below(ways.length)];
        }
        if (use == 0 && below(2) == 0) {
            String[] rules = {"b<3", "w<6|m%2", "l<9&a<12", "!(w=7)", "1", "a%5-4"};
            return rules[below(rules.length)];
        }
        if (use == 1 && below(2) == 0) {
            String[] signs = {"k=4", "d<0", "u>1", "w%2&l>4", "k=7|k=6", "d+1<0"};
            return signs[below(signs.length)];
        }
        String text = level(0, 6, names);
        if (text.length() > 60) {
            text = text.substring(0, 60);
        }
        if (below(3) == 0) {
            String bytes = "!(()|&<=>+-*/%0123456789bwmlakduorx \u00e9";
            int at = below(text.length() + 1);
            String one = bytes.substring(below(bytes.length())).substring(0, 1);
            text = text.substring(0, at) + one
                    + text.substring(Math.min(text.length(), at + below(2)));
        }
        return text;
    }

    private void calls(String name, Object... values) {
        if (called == CALLS || !same) {
            return;
        }
        called++;
        try {
            Object got = FACE.get(name).invoke(page, values);
            Object want = MODEL.get(name).invoke(model, values);
            told.append(name).append(List.of(values)).append(" = ").append(want).append('\n');
            if (!got.equals(want)) {
                same = false;
                told.append("  but answered ").append(got).append('\n');
            }
        } catch (ReflectiveOperationException e) {
            same = false;
            told.append(name).append(List.of(values)).append(" threw ").append(e.getCause());
        }
    }

    private void tellsText() {
        int use = near(0, 7);
        String text = anyText(use);
        for (int begin = 0; begin < text.length(); begin += 8) {
            int n = Math.min(8, text.length() - begin);
            long word = 0;
            for (int i = n - 1; i >= 0; i--) {
                word = word << 8 | text.charAt(begin + i) & 255;
            }
            calls("feed", word, n);
        }
        calls("text", use);
        if (use == 0 && below(2) == 0) {
            calls("untell", 0);
        }
    }

    private void callsAny() {
        int dice = below(100);
        if (dice < 4) {
            tellsText();
            return;
        }
        String name = dice < 40 ? OFTEN[below(OFTEN.length)]
                : CALL_NAMES.get(below(CALL_NAMES.size()));
        calls(name, values(name));
        for (int i = 0; name.equals("voice") && i <= model.count(6); i++) {
            calls("body", i);
        }
    }

    private int placed(int last) {
        return 100 * near(0, 7) + (below(3) > 0 ? Math.max(0, last) : near(0, Math.max(0, last)));
    }

    private Object[] values(String name) {
        int size = model.count(2);
        int now = model.count(0);
        switch (name) {
            case "go":
                return new Object[] {near(1, stride)};
            case "write":
                int kind = below(2) == 0 ? 1 : below(30) == 0 ? below(9) - 1 : 4 + below(2);
                return new Object[] {kind, placed(kind == 5 ? size - 1 : size), word()};
            case "cut":
                return new Object[] {placed(size - 1)};
            case "back":
                return new Object[] {near(0, 7), version()};
            case "half":
                return new Object[] {near(0, 7), version(), near(0, below(2) == 0 ? 20 : 5)};
            case "shut":
                return new Object[] {near(0, 7), below(9) == 0 ? near(1, 9999) : near(1, 9)};
            case "talk":
                return new Object[] {near(0, 7), near(1, 999)};
            case "actIs":
                return new Object[] {act(), near(0, 5)};
            case "as":
                return new Object[] {act(), near(0, 7)};
            case "word":
            case "origin":
                return new Object[] {version(), near(-1, below(2) == 0 ? size : 4)};
            case "feed":
                return new Object[] {random.nextLong(), near(1, 8)};
            case "live":
                return new Object[] {below(20) == 0 ? near(1, 60) : near(1, 4)};
            case "seed":
            case "tell":
                return new Object[] {name.equals("tell") && below(8) > 0 ? word() : anyNumber()};
            case "alike":
            case "likeness":
                return new Object[] {version(), version()};
            case "from":
            case "value":
            case "check":
                return new Object[] {version()};
            case "war":
                return new Object[] {act(), near(0, 3)};
            case "stays":
                return new Object[] {act()};
            case "writerIs":
                return new Object[] {near(0, 7), near(0, 4)};
            case "read":
                return new Object[] {near(0, now)};
            case "wrong":
                return new Object[] {version(), near(0, now / 2), near(now / 2, now)};
            case "got":
                return new Object[] {near(0, now / 2), near(now / 2, now)};
            case "hand":
                return new Object[] {near(0, 7), near(0, 7)};
            case "score":
                return new Object[] {act(), below(2) == 0 ? near(-1, 100) : near(-1, 5)};
            case "line":
                return new Object[] {near(0, 99), near(0, 99), near(0, 1)};
            case "worth":
                return new Object[] {word(), near(-9, 9)};
            case "voice":
                return new Object[] {below(6) == 0 ? 2 : act(), near(0, 3), anyNumber()};
            case "body":
                return new Object[] {near(0, 9)};
            case "sheet":
                int bits = below(20) == 0 ? below(40) : 8 * (below(2) + 1) * (below(2) + 1);
                return new Object[] {near(0, 3), below(9) == 0 ? 0 : bits, near(0, 24)};
            case "put":
                int low = word();
                return new Object[] {near(0, 3), near(0, 12), below(4) == 0 ? low + 256 : low};
            case "move":
                return new Object[] {near(0, 3), near(0, 8), near(0, 3), near(0, 8), near(0, 9)};
            case "words":
                return new Object[] {near(0, 3), near(0, 7)};
            case "told":
                return new Object[] {near(1, 6)};
            case "count":
            case "text":
            case "untell":
                return new Object[] {near(0, 7)};
            case "may":
                return new Object[] {near(0, 7)};
            default:
                return new Object[0];
        }
    }

    /** All that can be asked without a change, at the end of a run, as far as there are calls. */
    private void asksAll() {
        for (int i = 0; i < 8; i++) {
            calls("writerIs", i, 4);
            calls("may", i);
            calls("count", i);
            calls("told", i);
        }
        for (int act = model.count(1) - 1; act >= 0; act--) {
            for (int what = 0; what < 6; what++) {
                calls("actIs", act, what);
            }
            calls("war", act, below(4));
            calls("stays", act);
        }
        for (int version = model.count(1); version >= 0; version--) {
            for (int i = -1; i < model.word(version, -1); i++) {
                calls("word", version, i);
                calls("origin", version, i);
            }
        }
    }

    private boolean runs() {
        int texts = below(6);
        for (int k = 0; k < texts && same; k++) {
            tellsText();
        }
        // Some runs act on to the end, others leave calls to look at all that came of it.
        int acting = 100 + below(CALLS - 99);
        while (called < acting && same) {
            callsAny();
        }
        asksAll();
        return same;
    }

    public static void main(String[] args) {
        for (Method m : PageWars.class.getDeclaredMethods()) {
            if (java.lang.reflect.Modifier.isPublic(m.getModifiers())) {
                FACE.put(m.getName(), m);
                CALL_NAMES.add(m.getName());
            }
        }
        for (Method m : Model.class.getMethods()) {
            MODEL.put(m.getName(), m);
        }
        // Reflection tells methods in no order of its own, but runs must be the same each time.
        CALL_NAMES.sort(null);
        int wrong = 0;
        for (int run = 1; run <= RUNS && wrong < 3; run++) {
            ModelTest test = new ModelTest(run);
            if (!test.runs()) {
                wrong++;
                System.out.println("run " + run + " parts from the model:\n" + test.told);
            }
        }
        System.out.println(wrong == 0 ? RUNS + " runs are as the model has them"
                : wrong + " runs are not as the model has them");
        if (wrong != 0) {
            System.exit(1);
        }
    }
}
