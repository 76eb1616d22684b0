/** The document's sentences on HANDS, LINES, WORTHS: point 3 of Terms, promises 28 to 34. */
final class EdgesOfHands {
    private static final int MIN = Integer.MIN_VALUE;
    private static final int MAX = Integer.MAX_VALUE;
    private static PageWars x;

    private EdgesOfHands() {
    }

    private static void of(int promise, String sentence) {
        Due.sentence(promise, sentence);
        x = new PageWars();
    }

    private static void goesTo(int minute) {
        while (x.count(0) < minute) {
            x.go(Math.min(9999, minute - x.count(0)));
        }
    }

    // ---- Terms: 3

    private static void hours() {
        of(0, "HOURS: how many ACTS a WRITER did in each of 24 (MINUTE / 60 % 24)");
        int[] minutes = {0, 59, 60, 119, 1380, 1439, 1440, 1500, 29999};
        int[] hours = {0, 0, 1, 1, 23, 23, 0, 1, 19};
        for (int one = 0; one < minutes.length; one++) {
            for (int other = one; other < minutes.length; other++) {
                x = new PageWars();
                goesTo(minutes[one]);
                x.talk(0, 1);
                goesTo(minutes[other]);
                x.talk(1, 1);
                Due.is("MINUTES " + minutes[one] + ", " + minutes[other], x.hand(0, 1),
                        hours[one] == hours[other] ? 100 : 0);
            }
        }
        // ACTS of each KIND, THE MACHINE's too.
        x = new PageWars();
        x.write(1, 700, 5);
        x.write(4, 700, 5);
        x.write(5, 700, 5);
        x.cut(700);
        x.back(7, 0);
        x.half(7, 0, 0);
        x.talk(7, 1);
        x.shut(7, 1);
        goesTo(60);
        for (int i = 0; i < 8; i++) {
            x.talk(6, 1);
        }
        Due.is("eight each", x.hand(6, 7), 0);
        goesTo(1440);
        for (int i = 1; i <= 4; i++) {
            x.talk(6, 1);
            Due.is("eight and " + (8 + i), x.hand(6, 7), 100 * i / 8);
        }
    }

    private static void hands() {
        of(0, "HAND: 100 times what two have in common (of each hour the lesser number, together) by "
                + "what the one with the fewer has, cut");
        x.talk(0, 1);
        x.talk(0, 1);
        x.talk(1, 1);
        Due.is("1 of 1", x.hand(0, 1), 100);
        goesTo(60);
        x.talk(1, 1);
        Due.is("1 of 2, as many each", x.hand(0, 1), 50);
        x.talk(1, 1);
        Due.is("1 of 2, the fewer", x.hand(0, 1), 50);
        x.talk(0, 1);
        Due.is("2 of 3", x.hand(0, 1), 66);
        Due.is("the other way", x.hand(1, 0), 66);
        goesTo(120);
        x.talk(0, 1);
        Due.is("2 of 3", x.hand(0, 1), 66);
        x.talk(1, 1);
        Due.is("3 of 4", x.hand(0, 1), 75);
        goesTo(180);
        x.talk(2, 1);
        Due.is("none of 1", x.hand(0, 2), 0);
        for (int i = 0; i < 6; i++) {
            x.talk(2, 1);
        }
        Due.is("none of 4", x.hand(0, 2), 0);
    }

    private static void scores() {
        of(0, "SCORES: told of an ACT (0 to 100), and whether it was truly BOYISH (its KIND is, or is "
                + "under it)");
        // Each KIND of ACT with a SCORE of 50: what it costs by x 1, y 0 at 0 and by x 0, y 1.
        x.write(1, 0, 5);
        x.cut(0);
        x.back(0, 1);
        x.half(0, 1, 1);
        x.write(4, 0, 5);
        x.write(5, 0, 5);
        x.talk(0, 1);
        x.shut(0, 1);
        for (int act = 0; act < 8; act++) {
            x.score(act, 50);
            boolean boyish = x.actIs(act, 0) == 4;
            Due.is("KIND " + x.actIs(act, 0), x.line(9, 9, 0), boyish ? 50 : 101);
            Due.is("costs nothing", x.line(9, 9, 1), 0);
            x.score(act, -1);
        }
        Due.is("without a SCORE", x.line(9, 9, 0), 101);
        Due.is("SCORE 0", x.score(4, 0) * 1000 + x.line(9, 9, 0), -1000);
        Due.is("SCORE 100", x.score(4, 100) * 1000 + x.line(9, 9, 0), 100);
    }

    private static void lines() {
        of(0, "LINE c: the MACHINE would take those with SCORE c or more; it costs x for each of "
                + "these that isn't BOYISH, y for each BOYISH one below (of ACTS with a SCORE)");
        x.write(4, 0, 5);
        x.write(1, 0, 5);
        x.score(0, 40);
        x.score(1, 40);
        Due.is("both of 40: taken", x.line(1, 2, 0), 40);
        Due.is("costs x", x.line(1, 2, 1), 1);
        Due.is("both of 40: left", x.line(2, 1, 0), 101);
        Due.is("costs y", x.line(2, 1, 1), 1);
        x.score(1, 39);
        Due.is("one below", x.line(2, 1, 0), 40);
        Due.is("costs nothing", x.line(2, 1, 1), 0);
        x.score(1, 41);
        Due.is("one above: both are taken", x.line(1, 2, 0), 40);
        Due.is("costs x", x.line(1, 2, 1), 1);
        Due.is("one above: both are left", x.line(2, 1, 0), 101);
        Due.is("costs y", x.line(2, 1, 1), 1);
        Due.is("like ones: the greatest", x.line(1, 1, 0), 101);
        for (int i = 0; i < 3; i++) {
            x.score(x.write(4, 0, 5), 41);
        }
        Due.is("three more: all are taken", x.line(9, 4, 0), 40);
        Due.is("costs one x", x.line(9, 4, 1), 9);
        Due.is("all are left", x.line(99, 4, 0), 101);
        Due.is("costs four y", x.line(99, 4, 1), 16);
        x.score(2, -1);
        x.score(3, -1);
        Due.is("without their SCORES", x.line(9, 4, 0), 101);
        Due.is("cost two y", x.line(9, 4, 1), 8);
    }

    private static void worthOfWords() {
        of(0, "WORTH of a WORD (-9 to 9; 0 at first); of a VERSION: that of its WORDS together");
        for (int word = 1; word <= 60; word++) {
            Due.is("at first, of " + word, x.worth(word, word % 19 - 9), 0);
        }
        for (int i = 0; i < 20; i++) {
            x.write(1, i, 1 + i);
            Due.is("VERSION " + (i + 1), x.value(i + 1), sumTo(i + 1));
        }
        Due.is("VERSION 0", x.value(0), 0);
        x.worth(1, 9);
        for (int i = 0; i < 20; i++) {
            x.write(5, i, 1);
        }
        Due.is("20 times 9", x.value(40), 180);
        x.worth(1, -9);
        Due.is("20 times -9", x.value(40), -180);
    }

    private static int sumTo(int words) {
        int sum = 0;
        for (int word = 1; word <= words; word++) {
            sum += word % 19 - 9;
        }
        return sum;
    }

    private static void bests() {
        of(0, "BEST: the VERSION with the most, of like ones the least");
        Due.is("VERSION 0 alone", x.best(), 0);
        x.write(1, 0, 1);
        Due.is("both 0", x.best(), 0);
        x.worth(1, 1);
        Due.is("the latest", x.best(), 1);
        x.write(1, 1, 2);
        Due.is("of like ones the least", x.best(), 1);
        x.worth(2, 1);
        Due.is("the latest", x.best(), 2);
        x.back(0, 0);
        x.back(0, 2);
        Due.is("of like ones the least", x.best(), 2);
        x.worth(1, -9);
        x.worth(2, -9);
        Due.is("all others below 0", x.best(), 0);
        x.worth(2, 9);
        Due.is("0 of like ones", x.best(), 0);
        for (int i = x.count(1); i < 59; i++) {
            x.talk(0, 1);
        }
        x.worth(3, 1);
        x.write(1, 0, 3);
        Due.is("the last of all", x.best(), 60);
    }

    private static void gots() {
        of(0, "GOT: WORTHS of what was there in each MINUTE from one to another one (that one not), "
                + "together");
        x.worth(1, 3);
        x.worth(2, -5);
        x.go(2);
        x.write(1, 0, 1);
        x.go(2);
        x.write(5, 0, 2);
        x.write(1, 1, 1);
        x.go(2);
        int[] of = {0, 0, 3, 3, -2, -2};
        for (int from = 0; from <= 6; from++) {
            int sum = 0;
            for (int to = from; to <= 6; to++) {
                Due.is("got(" + from + ", " + to + ")", x.got(from, to), sum);
                sum += to < 6 ? of[to] : 0;
            }
        }
    }

    // ---- promises 28 to 34

    private static void hand() {
        of(28, "HAND of two WRITERS");
        // Of busy(): 0 did two and 1 one in hour 0, 2 one in hour 0 and one in hour 1.
        Twins.ask("0 and 1", Twins::busy, x -> x.hand(0, 1), 100);
        Twins.ask("0 and 2", Twins::busy, x -> x.hand(0, 2), 50);
        Twins.ask("2 and 0", Twins::busy, x -> x.hand(2, 0), 50);
        of(28, "BEYOND: also of one and the same");
        Twins.refuseWriters(writer -> x -> x.hand(writer, 0));
        Twins.refuseWriters(writer -> x -> x.hand(0, writer));
        Twins.refuseWriters(writer -> x -> x.hand(writer, 7));
        Twins.refuseWriters(writer -> x -> x.hand(writer, writer));
        Twins.refuseEach("one and the same", writer -> x -> x.hand(writer, writer),
                0, 1, 2, 3, 4, 5, 6, 7);
        of(28, "NONE: one of them did nothing");
        Twins.refuse("the second", Twins::busy, x -> x.hand(0, 7), Due.NONE);
        Twins.refuse("the first", Twins::busy, x -> x.hand(7, 0), Due.NONE);
        Twins.refuse("both", Twins::busy, x -> x.hand(6, 7), Due.NONE);
        Twins.refuse("both", Twins::fresh, x -> x.hand(0, 1), Due.NONE);
        x.talk(0, 1);
        x.talk(7, 1);
        Due.is("neither", x.hand(0, 7), 100);
    }

    private static void score() {
        of(29, "An ACT has a SCORE (0 to 100; -1: none): what it had");
        x.talk(0, 1);
        int had = -1;
        for (int v : new int[] {0, 100, -1, -1, 50, 0, -1}) {
            Due.is("score(0, " + v + ")", x.score(0, v), had);
            Due.is("its SCORE", x.actIs(0, 5), v);
            had = v;
        }
        for (int i = 1; i < 60; i++) {
            x.talk(0, 1);
        }
        Due.is("the last ACT", x.score(59, 7), -1);
        Due.is("the last ACT", x.actIs(59, 5), 7);
        Due.is("another one", x.actIs(58, 5), -1);
        of(29, "BEYOND");
        Twins.refuseActs(act -> x -> x.score(act, 1));
        Twins.refuseEach("SCORE", v -> x -> x.score(1, v), -2, 101, MIN, MAX);
    }

    private static void line() {
        of(30, "LINE with x, y (0 to 99): the c (0 to 101) that costs least, of like ones the "
                + "greatest (what 0); what it costs (1)");
        Due.is("no ACTS", x.line(0, 0, 0), 101);
        Due.is("no ACTS", x.line(99, 99, 0), 101);
        Due.is("no ACTS", x.line(99, 99, 1), 0);
        for (int score = 0; score <= 100; score++) {
            x = new PageWars();
            x.score(x.write(4, 0, 5), score);
            Due.is("a BOYISH one of " + score, x.line(1, 1, 0), score);
            x.score(x.write(1, 0, 5), score);
            Due.is("a NEW one, too", x.line(1, 99, 0), score);
            Due.is("costs", x.line(1, 99, 1), 1);
            Due.is("a NEW one, too", x.line(99, 1, 0), 101);
            Due.is("costs", x.line(99, 99, 1), 99);
        }
        Due.is("y 0", x.line(99, 0, 0), 101);
        Due.is("x 0", x.line(0, 99, 0), 100);
        Due.is("both 0", x.line(0, 0, 0), 101);
        // 20 BOYISH ones and 40 others.
        x = new PageWars();
        for (int i = 0; i < 20; i++) {
            x.score(x.write(4, 0, 5), 0);
        }
        for (int i = 0; i < 40; i++) {
            x.score(x.write(5, 0, 5), 0);
        }
        Due.is("20 are left", x.line(99, 99, 1), 1980);
        Due.is("20 are left", x.line(99, 99, 0), 101);
        Due.is("40 are taken", x.line(49, 99, 0), 0);
        Due.is("40 are taken", x.line(49, 99, 1), 1960);
        Twins.ask("it changes nothing", Twins::busy, x -> x.line(5, 5, 0), 90);
        of(30, "BEYOND");
        Twins.refuseEach("x", cost -> x -> x.line(cost, 0, 0), -1, 100, MIN, MAX);
        Twins.refuseEach("y", cost -> x -> x.line(0, cost, 0), -1, 100, MIN, MAX);
        Twins.refuseEach("what", what -> x -> x.line(0, 0, what), -1, 2, MIN, MAX);
    }

    private static void worth() {
        of(31, "WORTH of a WORD becomes v: what it was");
        for (int word : new int[] {1, 60}) {
            Due.is("at first", x.worth(word, -9), 0);
            Due.is("the most", x.worth(word, 9), -9);
            Due.is("0 again", x.worth(word, 0), 9);
            Due.is("what it was", x.worth(word, 5), 0);
        }
        Due.is("another one", x.worth(2, 0) + x.worth(59, 0), 0);
        of(31, "BEYOND");
        Twins.refuseEach("WORD", word -> x -> x.worth(word, 1), 0, -1, 61, MIN, MAX);
        Twins.refuseEach("WORTH", v -> x -> x.worth(5, v), -10, 10, MIN, MAX);
    }

    private static void value() {
        of(32, "WORTH of a VERSION");
        // Of busy(): WORD 5 is worth 4, WORD 60 -9.
        int[] due = {0, 4, -5, 4, 0, 0, 4, 4, 4, 4};
        for (int k = 0; k < due.length; k++) {
            int version = k;
            Twins.ask("value(" + k + ")", Twins::busy, x -> x.value(version), due[k]);
        }
        of(32, "BEYOND");
        Twins.refuseVersions(version -> x -> x.value(version));
        of(33, "BEST");
        Twins.ask("it changes nothing", Twins::busy, x -> x.best(), 1);
        Due.is("of a new object", x.best(), 0);
    }

    private static void got() {
        of(34, "GOT (any number)");
        // Of busy(): -5 in each of 0 to 9, 4 in each of 10 to 1502.
        Twins.ask("all", Twins::busy, x -> x.got(0, 1503), -50 + 4 * 1493);
        Twins.ask("the first", Twins::busy, x -> x.got(0, 1), -5);
        Twins.ask("the last", Twins::busy, x -> x.got(1502, 1503), 4);
        Twins.ask("none", Twins::busy, x -> x.got(1503, 1503), 0);
        Due.is("of a new object", x.got(0, 0), 0);
        x.worth(1, -9);
        for (int i = 0; i < 20; i++) {
            x.write(1, i, 1);
        }
        goesTo(29999);
        Due.is("the least of all", x.got(0, 29999), -180 * 29999);
        x.write(5, 0, 2);
        Due.is("below LOW", x.got(0, 5556), -1000080);
        x.worth(1, 9);
        Due.is("the most of all", x.got(0, 29999), 180 * 29999);
        for (int k = 1; k <= 6; k++) {
            Due.is("no ERROR " + k, x.told(k), 0);
        }
        of(34, "BEYOND: MINUTES as of wrong()");
        Twins.refuseEach("from", from -> x -> x.got(from, 10), -1, 11, 1503, MIN, MAX);
        Twins.refuseEach("to", to -> x -> x.got(10, to), -1, 9, 1504, 30000, MIN, MAX);
        Twins.refuseEach("both", both -> x -> x.got(both, both), -1, 1504, MIN, MAX);
        Twins.refuse("to 1", Twins::fresh, x -> x.got(0, 1), Due.BEYOND);
    }

    static void all() {
        hours();
        hands();
        scores();
        lines();
        worthOfWords();
        bests();
        gots();
        hand();
        score();
        line();
        worth();
        value();
        got();
    }
}
