/**
 * Two objects with the same calls behind them, of which one gets a call more: one that is refused,
 * or one that only asks. All that can be asked afterwards must be the same of both, but for what
 * told() tells. Each way to look has a pair of its own, so that what it changes is not in the way
 * and no object comes near its 512 calls.
 */
final class Twins {
    interface Ahead {
        void on(PageWars x);
    }

    interface Call {
        int on(PageWars x);
    }

    /** A call by one of its numbers. */
    interface CallOf {
        Call of(int number);
    }

    interface Look {
        int[] at(PageWars x);
    }

    /** How many ACTS and WORDS there are behind busy(). */
    static final int BUSY_ACTS = 9;
    static final int BUSY_WORDS = 3;

    private static final int LOW = -1000000;
    private static final Look[] LOOKS = {Twins::countsAndActs, Twins::whatActsWereOf,
        Twins::versions, Twins::texts, Twins::sheets, Twins::imageAndRest};

    /** Answers in a row. */
    private static final class Row {
        private int[] numbers = new int[64];
        private int size;

        Row add(int number) {
            if (size == numbers.length) {
                numbers = java.util.Arrays.copyOf(numbers, 2 * size);
            }
            numbers[size] = number;
            size++;
            return this;
        }

        int[] all() {
            return java.util.Arrays.copyOf(numbers, size);
        }
    }

    private Twins() {
    }

    static void fresh(PageWars x) {
    }

    /** Something of all there is; WRITER 6 MAY not act, SHEET 3 is missing. */
    static void busy(PageWars x) {
        x.worth(5, 4);
        x.worth(60, -9);
        x.write(1, 0, 5);
        x.write(4, 101, 60);
        x.go(10);
        x.tell(9);
        x.image();
        x.check(0);
        x.score(1, 90);
        x.back(2, 1);
        x.write(5, 300, 7);
        x.write(1, 401, 8);
        x.half(5, 2, 1);
        x.talk(4, 50);
        x.write(1, 0, 9);
        x.go(1490);
        x.shut(2, 3);
        x.go(3);
        Due.text(x, 0, "!(w=6)");
        Due.text(x, 1, "k=4&w=5");
        Due.text(x, 2, "1");
        Due.text(x, 5, "r%5");
        Due.tape(x, "12+");
        x.seed(77);
        for (int i = 0; i < 4; i++) {
            x.tell(9 - i);
            x.sheet(i, new int[] {8, 8, 16, 0}[i], 4 + i);
            for (int k = 0; k < 4; k++) {
                x.put(i, k, 10 * i + k + 1);
            }
        }
        x.voice(3, 2, 9);
    }

    static void busyWithActs(PageWars x, int acts) {
        busy(x);
        for (int i = x.count(1); i < acts; i++) {
            x.talk(0, 1);
        }
    }

    static void fullOfActs(PageWars x) {
        busyWithActs(x, 60);
    }

    static void fullOfWords(PageWars x) {
        busy(x);
        for (int i = x.count(2); i < 20; i++) {
            x.write(1, i, 1 + i);
        }
    }

    static void late(PageWars x) {
        busy(x);
        for (int i = 0; i < 2; i++) {
            x.go(9999);
        }
        x.go(29998 - x.count(0));
    }

    /** The call answers the ERROR, which is told once more, and changes nothing else. */
    static void refuse(String what, Ahead ahead, Call call, int error) {
        one(what, ahead, call, error, LOW - error);
    }

    /** The call answers, and changes nothing. */
    static void ask(String what, Ahead ahead, Call call, int answer) {
        one(what, ahead, call, answer, 0);
    }

    /** WRITERS that there are not, on both sides of those that there are. */
    static void refuseWriters(CallOf call) {
        refuseEach("WRITER", call, -1, 8, Integer.MIN_VALUE, Integer.MAX_VALUE);
    }

    static void refuseVersions(CallOf call) {
        refuseEach("VERSION", call, -1, BUSY_ACTS + 1, 61, Integer.MIN_VALUE, Integer.MAX_VALUE);
        refuse("VERSION 1 ahead of all ACTS", Twins::fresh, call.of(1), Due.BEYOND);
        refuse("VERSION 61 behind 60 ACTS", Twins::fullOfActs, call.of(61), Due.BEYOND);
    }

    static void refuseActs(CallOf call) {
        refuseEach("ACT", call, -1, BUSY_ACTS, 60, Integer.MIN_VALUE, Integer.MAX_VALUE);
        refuse("ACT 0 ahead of all ACTS", Twins::fresh, call.of(0), Due.BEYOND);
        refuse("ACT 60 of 60", Twins::fullOfActs, call.of(60), Due.BEYOND);
    }

    /** What a call answers by BEYOND, whatever else is fine. */
    static void refuseEach(String what, CallOf call, int... numbers) {
        for (int number : numbers) {
            refuse(what + " " + number, Twins::busy, call.of(number), Due.BEYOND);
        }
    }

    private static void one(String what, Ahead ahead, Call call, int answer, int toldMore) {
        for (int k = 0; k < LOOKS.length; k++) {
            PageWars heard = new PageWars();
            PageWars spared = new PageWars();
            ahead.on(heard);
            ahead.on(spared);
            Due.is(what, call.on(heard), answer);
            for (int error = 1; error <= 6; error++) {
                Due.is("told(" + error + ") behind " + what, heard.told(error),
                        spared.told(error) + (error == toldMore ? 1 : 0));
            }
            int[] got = LOOKS[k].at(heard);
            int[] want = LOOKS[k].at(spared);
            Due.holds("nothing changes by " + what + " (look " + k + ")",
                    java.util.Arrays.equals(got, want));
        }
    }

    private static int[] countsAndActs(PageWars x) {
        Row row = new Row();
        for (int what = 0; what < 8; what++) {
            row.add(x.count(what));
        }
        return acts(x, row, 0);
    }

    private static int[] whatActsWereOf(PageWars x) {
        return acts(x, new Row(), 3);
    }

    private static int[] acts(PageWars x, Row row, int first) {
        int acts = x.count(1);
        for (int act = 0; act < acts; act++) {
            for (int what = first; what < first + 3; what++) {
                row.add(x.actIs(act, what));
            }
        }
        return row.all();
    }

    private static int[] versions(PageWars x) {
        Row row = new Row();
        int last = x.count(1);
        for (int v = 0; v <= last; v++) {
            row.add(x.word(v, -1)).add(x.word(v, 0)).add(x.origin(v, 0));
        }
        for (int i = 0; i < x.count(2); i++) {
            row.add(x.word(last, i)).add(x.origin(last, i));
        }
        for (int word = 1; word <= 60; word++) {
            row.add(x.worth(word, 0));
        }
        return row.all();
    }

    /** TEXTS by what they do: who MAY, who lives how, what the MACHINE takes back. */
    private static int[] texts(PageWars x) {
        Row row = new Row();
        for (int writer = 0; writer < 8; writer++) {
            row.add(x.may(writer));
        }
        row.add(x.feed('1', 1)).add(x.text(6));
        row.add(x.write(4, 500, 3)).add(x.live(6)).add(x.count(1)).add(x.count(7));
        for (int act = Math.max(0, x.count(1) - 30); act < x.count(1); act++) {
            row.add(x.actIs(act, 0)).add(x.actIs(act, 1)).add(x.actIs(act, 3));
        }
        for (int use = 0; use < 8; use++) {
            row.add(x.untell(use));
        }
        return row.all();
    }

    private static int[] tape(PageWars x) {
        return new int[] {x.count(4), x.feed('1', 1), x.text(6), x.untell(6)};
    }

    /** What they hold, by putting it in as WORDS, then how many they hold, then of what bits. */
    private static int[] sheets(PageWars x) {
        Row row = new Row();
        for (int number : tape(x)) {
            row.add(number);
        }
        x.restore();
        x.untell(0);
        x.untell(1);
        for (int sheet = 0; sheet < 4; sheet++) {
            x.back(0, 0);
            row.add(x.words(sheet, 0));
            for (int i = 0; i < x.count(2); i++) {
                row.add(x.word(x.count(1), i));
            }
            for (int i = 0; i < 25; i++) {
                row.add(x.put(sheet, i, 1));
            }
            for (int other = 0; other < 4; other++) {
                row.add(x.move(sheet, 0, other, 0, 0));
            }
        }
        return row.all();
    }

    private static int[] imageAndRest(PageWars x) {
        Row row = new Row();
        for (int use = 0; use < 8; use++) {
            row.add(x.untell(use));
        }
        for (int i = 0; i < x.count(6); i++) {
            row.add(x.body(i));
        }
        // The numbers that wait, as far as there is room for a PAGE that is like busy()'s.
        x.go(1);
        x.back(0, 0);
        for (int i = 0; i < 4; i++) {
            x.write(1, i, 9 - i);
        }
        row.add(x.count(5)).add(x.check(x.count(1)));
        row.add(x.restore());
        for (int what = 0; what < 8; what++) {
            row.add(x.count(what));
        }
        row.add(x.check(1)).add(x.actIs(1, 5)).add(x.worth(5, 0)).add(x.word(1, 0));
        row.add(x.image());
        return row.all();
    }
}
