/** Promises 28 to 34: hands, lines, worths. */
public final class HandsTest {
    private static PageWars x;

    private static void fresh(int promise) {
        Due.promise(promise);
        x = new PageWars();
    }

    private static void hand() {
        fresh(28);
        x.talk(0, 1);
        Due.is("one did nothing", x.hand(0, 1), Due.NONE);
        Due.is("one did nothing", x.hand(1, 0), Due.NONE);
        x.go(59);
        x.talk(1, 1);
        Due.is("of one hour", x.hand(0, 1), 100);
        x.go(1);
        x.write(1, 100, 5);
        x.back(1, 0);
        Due.is("the one with the fewer has it all", x.hand(0, 1), 100);
        x.go(120);
        x.talk(0, 1);
        x.talk(0, 1);
        Due.is("1 of 3", x.hand(0, 1), 33);
        Due.is("1 of 3", x.hand(1, 0), 33);
        x.go(1260);
        Due.is("the next day", x.count(0), 1440);
        x.talk(1, 1);
        Due.is("1 of 3: the lesser number", x.hand(0, 1), 33);
        x.talk(0, 1);
        Due.is("2 of 4", x.hand(0, 1), 50);
        x.talk(7, 1);
        Due.is("THE MACHINE, too", x.hand(7, 0), 100);
        Due.is("one and the same", x.hand(0, 0), Due.BEYOND);
        Due.is("one and the same who did nothing", x.hand(5, 5), Due.BEYOND);
        Due.is("WRITER 8", x.hand(0, 8), Due.BEYOND);
        Due.is("WRITER 8", x.hand(8, 0), Due.BEYOND);
        Due.is("WRITER -1", x.hand(0, -1), Due.BEYOND);
        Due.is("WRITER -1", x.hand(-1, 0), Due.BEYOND);
        Due.is("BEYOND ahead of NONE", x.hand(5, 8), Due.BEYOND);
        Due.is("both did nothing", x.hand(5, 6), Due.NONE);
    }

    private static void hours() {
        fresh(28);
        x.talk(0, 1);
        x.go(60);
        x.talk(1, 1);
        Due.is("MINUTES 0 and 60", x.hand(0, 1), 0);
        x.go(1379);
        x.talk(2, 1);
        Due.is("MINUTES 0 and 1439", x.hand(0, 2), 0);
        x.go(1);
        x.talk(3, 1);
        Due.is("MINUTES 0 and 1440", x.hand(0, 3), 100);
        Due.is("MINUTES 60 and 1440", x.hand(1, 3), 0);
        Due.is("MINUTES 1439 and 1440", x.hand(2, 3), 0);
        x.go(1439);
        x.talk(4, 1);
        Due.is("MINUTES 1439 and 2879", x.hand(2, 4), 100);
        x.go(61);
        x.talk(5, 1);
        Due.is("MINUTES 60 and 2940", x.hand(1, 5), 100);
    }

    private static void score() {
        fresh(29);
        Due.is("no ACT", x.score(0, 1), Due.BEYOND);
        x.talk(0, 1);
        Due.is("score(0, 0)", x.score(0, 0), -1);
        Due.is("score(0, 100)", x.score(0, 100), 0);
        Due.is("score(0, 101)", x.score(0, 101), Due.BEYOND);
        Due.is("score(0, -2)", x.score(0, -2), Due.BEYOND);
        Due.is("it stays", x.actIs(0, 5), 100);
        Due.is("score(0, -1)", x.score(0, -1), 100);
        Due.is("none", x.score(0, 5), -1);
        Due.is("ACT 1", x.score(1, 5), Due.BEYOND);
        Due.is("ACT -1", x.score(-1, 5), Due.BEYOND);
    }

    private static void line() {
        fresh(30);
        Due.is("no SCORE", x.line(5, 5, 0), 101);
        Due.is("costs", x.line(5, 5, 1), 0);
        x.write(4, 0, 1);
        x.write(4, 0, 1);
        x.write(1, 0, 1);
        x.write(5, 0, 1);
        x.talk(0, 1);
        x.write(4, 0, 1);
        x.score(0, 80);
        x.score(1, 40);
        x.score(2, 60);
        x.score(3, 50);
        x.score(4, 10);
        // 5 is BOYISH, but has no SCORE.
        Due.is("60 and 50 are taken wrongly", x.line(1, 9, 0), 40);
        Due.is("costs", x.line(1, 9, 1), 2);
        Due.is("40 is left", x.line(9, 1, 0), 80);
        Due.is("costs", x.line(9, 1, 1), 1);
        Due.is("like ones: the greatest", x.line(1, 2, 0), 80);
        Due.is("costs", x.line(1, 2, 1), 2);
        Due.is("x 0", x.line(0, 5, 0), 40);
        Due.is("y 0", x.line(5, 0, 0), 101);
        Due.is("both 0", x.line(0, 0, 0), 101);
        Due.is("99", x.line(99, 99, 1), 99);
        x.score(4, 100);
        Due.is("100 is taken by 100", x.line(99, 10, 0), 101);
        Due.is("costs", x.line(99, 10, 1), 20);
        x.score(0, 100);
        x.score(1, -1);
        x.score(4, -1);
        Due.is("a BOYISH one of 100", x.line(5, 5, 0), 100);
        x.score(0, 0);
        x.score(2, -1);
        x.score(3, -1);
        Due.is("a BOYISH one of 0", x.line(5, 5, 0), 0);
        Due.is("costs", x.line(5, 5, 1), 0);
        x.score(0, 1);
        x.score(2, 0);
        Due.is("BOYISH ones of 1 on", x.line(5, 5, 0), 1);
        Due.is("costs", x.line(5, 5, 1), 0);
        x.score(0, 50);
        x.score(2, 50);
        Due.is("both of 50", x.line(1, 9, 0), 50);
        Due.is("costs", x.line(1, 9, 1), 1);
        Due.is("both of 50", x.line(9, 1, 0), 101);
        Due.is("costs", x.line(9, 1, 1), 1);
        Due.is("x 100", x.line(100, 0, 0), Due.BEYOND);
        Due.is("x -1", x.line(-1, 0, 0), Due.BEYOND);
        Due.is("y 100", x.line(0, 100, 0), Due.BEYOND);
        Due.is("y -1", x.line(0, -1, 0), Due.BEYOND);
        Due.is("what 2", x.line(0, 0, 2), Due.BEYOND);
        Due.is("what -1", x.line(0, 0, -1), Due.BEYOND);
    }

    private static void worth() {
        fresh(31);
        Due.is("worth(1, 9)", x.worth(1, 9), 0);
        Due.is("worth(60, -9)", x.worth(60, -9), 0);
        Due.is("worth(1, 10)", x.worth(1, 10), Due.BEYOND);
        Due.is("worth(1, -10)", x.worth(1, -10), Due.BEYOND);
        Due.is("worth(0, 1)", x.worth(0, 1), Due.BEYOND);
        Due.is("worth(61, 1)", x.worth(61, 1), Due.BEYOND);
        Due.is("worth(-1, 1)", x.worth(-1, 1), Due.BEYOND);
        Due.is("worth(1, 3)", x.worth(1, 3), 9);
        Due.is("worth(60, 0)", x.worth(60, 0), -9);
        Due.is("worth(1, 0)", x.worth(1, 0), 3);
    }

    private static void values() {
        fresh(32);
        x.worth(1, 5);
        x.worth(2, -7);
        x.write(1, 0, 1);
        x.write(1, 1, 1);
        x.write(1, 2, 2);
        x.write(1, 3, 3);
        Due.is("value(0)", x.value(0), 0);
        Due.is("value(2)", x.value(2), 10);
        Due.is("value(3)", x.value(3), 3);
        Due.is("value(4)", x.value(4), 3);
        Due.is("value(5)", x.value(5), Due.BEYOND);
        Due.is("value(-1)", x.value(-1), Due.BEYOND);
        Due.promise(33);
        Due.is("best", x.best(), 2);
        x.back(0, 2);
        Due.is("of like ones the least", x.best(), 2);
        x.worth(1, 0);
        x.worth(2, 0);
        Due.is("all like", x.best(), 0);
        x.worth(1, -1);
        Due.is("the empty one", x.best(), 0);
        x.worth(3, 9);
        Due.is("a later one", x.best(), 4);
        Due.is("value(4)", x.value(4), 7);
        fresh(33);
        Due.is("VERSION 0 alone", x.best(), 0);
        x.worth(1, 4);
        x.worth(2, -4);
        x.write(1, 0, 2);
        Due.is("VERSION 0 of two", x.best(), 0);
        x.write(5, 0, 1);
        Due.is("the latest", x.best(), 2);
        fresh(33);
        x.worth(1, 4);
        x.write(1, 0, 1);
        x.write(1, 1, 2);
        Due.is("VERSION 1", x.best(), 1);
    }

    private static void got() {
        fresh(34);
        Due.is("got(0, 0)", x.got(0, 0), 0);
        Due.is("got(0, 1)", x.got(0, 1), Due.BEYOND);
        x.worth(1, 5);
        x.worth(2, -7);
        x.go(3);
        x.write(1, 0, 1);
        x.go(10);
        x.write(1, 0, 2);
        x.write(1, 0, 2);
        x.go(10);
        x.back(0, 0);
        x.go(10);
        Due.is("all", x.got(0, 33), 50 - 90);
        Due.is("some", x.got(10, 15), 15 - 18);
        Due.is("that one not", x.got(12, 13), 5);
        Due.is("no MINUTE", x.got(12, 12), 0);
        Due.is("none there", x.got(23, 33), 0);
        Due.is("from above to", x.got(5, 4), Due.BEYOND);
        Due.is("to above NOW", x.got(0, 34), Due.BEYOND);
        Due.is("from -1", x.got(-1, 4), Due.BEYOND);
        x.worth(1, 1);
        Due.is("WORTHS as they are now", x.got(3, 13), 10);
    }

    private static void gotAnyNumber() {
        fresh(34);
        x.worth(1, -9);
        for (int i = 0; i < 20; i++) {
            x.write(1, i, 1);
        }
        x.go(9999);
        Due.is("below LOW", x.got(0, 9999), -1799820);
        Due.is("no ERROR", x.told(1), 0);
    }

    public static void main(String[] args) {
        hand();
        hours();
        score();
        line();
        worth();
        values();
        got();
        gotAnyNumber();
        Due.ends();
    }
}
