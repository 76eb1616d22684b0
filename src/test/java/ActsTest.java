/** Promises 1 to 13: a new object, and acts. */
public final class ActsTest {
    private static PageWars x;

    private static void fresh(int promise) {
        Due.promise(promise);
        x = new PageWars();
    }

    private static void fillsActs() {
        for (int i = x.count(1); i < 60; i++) {
            x.talk(0, 1);
        }
    }

    private static void fillsPage() {
        for (int i = x.count(2); i < 20; i++) {
            x.write(1, i, 1);
        }
    }

    private static void newObject() {
        fresh(1);
        for (int what = 0; what < 7; what++) {
            Due.is("count(" + what + ")", x.count(what), 0);
        }
        Due.is("z", x.count(7), 1);
        Due.page(x, 0);
        Due.is("no VERSION 1", x.word(1, -1), Due.BEYOND);
        Due.is("no ACT", x.actIs(0, 0), Due.BEYOND);
        for (int writer = 0; writer < 8; writer++) {
            Due.is("may(" + writer + ")", x.may(writer), 1);
        }
        Due.is("no TEXT", x.untell(0) + x.untell(1) + x.untell(2) + x.untell(7), 0);
        Due.is("no SHEET", x.put(0, 0, 1), Due.NONE);
        Due.is("no WORTH", x.worth(1, 0) + x.worth(60, 0), 0);
        Due.is("no BODY", x.body(0), Due.NONE);
        Due.is("no IMAGE", x.restore(), Due.NONE);
        Due.is("told(1)", x.told(1), 2);
        Due.is("told(2)", x.told(2), 3);
        Due.is("told(3)", x.told(3), 0);
    }

    private static void go() {
        fresh(2);
        Due.is("go(0)", x.go(0), Due.BEYOND);
        Due.is("go(-1)", x.go(-1), Due.BEYOND);
        Due.is("go(10000)", x.go(10000), Due.BEYOND);
        Due.is("go(max)", x.go(Integer.MAX_VALUE), Due.BEYOND);
        Due.is("go(min)", x.go(Integer.MIN_VALUE), Due.BEYOND);
        Due.is("go(1)", x.go(1), 1);
        Due.is("go(9999)", x.go(9999), 10000);
        Due.is("go(9999)", x.go(9999), 19999);
        Due.is("go(9999)", x.go(9999), 29998);
        Due.is("go(2)", x.go(2), Due.STATE);
        Due.is("go(10000) is BEYOND first", x.go(10000), Due.BEYOND);
        Due.is("NOW stays", x.count(0), 29998);
        Due.is("go(1)", x.go(1), 29999);
        Due.is("go(1)", x.go(1), Due.STATE);
    }

    private static void write() {
        fresh(3);
        Due.is("write(1, 0, 10)", x.write(1, 0, 10), 0);
        Due.is("at the end", x.write(1, 101, 11), 1);
        Due.is("ahead of all", x.write(4, 200, 12), 2);
        Due.is("between", x.write(4, 301, 13), 3);
        Due.page(x, 4, 12, 13, 10, 11);
        Due.origins(x, 4, 2, 3, 0, 1);
        Due.is("MENDING", x.write(5, 703, 60), 4);
        Due.page(x, 5, 12, 13, 10, 60);
        Due.origins(x, 5, 2, 3, 0, 4);
        Due.page(x, 4, 12, 13, 10, 11);
        Due.is("KIND", x.actIs(3, 0), 4);
        Due.is("WRITER", x.actIs(4, 1), 7);
        for (int kind : new int[] {-1, 0, 2, 3, 6, 7, 8}) {
            Due.is("kind " + kind, x.write(kind, 0, 1), Due.BEYOND);
        }
        Due.is("WRITER 8", x.write(1, 800, 1), Due.BEYOND);
        Due.is("wp -1", x.write(1, -1, 1), Due.BEYOND);
        Due.is("wp -100", x.write(1, -100, 1), Due.BEYOND);
        Due.is("wp min", x.write(1, Integer.MIN_VALUE, 1), Due.BEYOND);
        Due.is("WORD 0", x.write(1, 0, 0), Due.BEYOND);
        Due.is("WORD 61", x.write(1, 0, 61), Due.BEYOND);
        Due.is("place 5 of 4", x.write(1, 5, 1), Due.BEYOND);
        Due.is("place 4 of 4, MENDING", x.write(5, 4, 1), Due.BEYOND);
        Due.is("nothing came", x.count(1), 5);
        Due.is("told, with two of the origins asked", x.told(1), 17);
    }

    private static void writeErrorsInOrder() {
        fresh(3);
        fillsPage();
        Due.is("THE PAGE is full", x.write(1, 20, 1), Due.FULL);
        Due.is("THE PAGE is full", x.write(4, 0, 1), Due.FULL);
        Due.is("MENDING needs no room", x.write(5, 19, 2), 20);
        Due.is("place 21", x.write(1, 21, 1), Due.BEYOND);
        x.shut(1, 5);
        Due.is("STATE ahead of FULL", x.write(1, 20, 1), Due.STATE);
        Due.is("BEYOND ahead of STATE", x.write(1, 21, 1), Due.BEYOND);
        Due.is("who shut it", x.write(1, 120, 1), Due.FULL);
        x.go(5);
        fillsActs();
        Due.is("60 ACTS", x.write(5, 0, 1), Due.FULL);
        Due.is("BEYOND ahead of FULL", x.write(5, 20, 1), Due.BEYOND);
        Due.is("60 ACTS", x.count(1), 60);
        Due.is("told(4)", x.told(4), 4);
        fresh(3);
        fillsActs();
        Due.is("60 ACTS, an empty PAGE", x.write(1, 0, 1), Due.FULL);
    }

    /** The last ACT's VERSION is the last row that there is room for. */
    private static void theLastAct() {
        fresh(3);
        fillsPage();
        x.cut(5);
        for (int i = 21; i < 59; i++) {
            x.talk(0, 1);
        }
        x.image();
        Due.is("the last ACT", x.write(1, 18, 9), 59);
        Due.is("its WORD", x.word(60, 18), 9);
        Due.is("its ORIGIN", x.origin(60, 18), 59);
        x.restore();
        Due.is("the last ACT", x.cut(17), 59);
        Due.is("WORDS", x.count(2), 18);
        x.restore();
        Due.is("the last ACT", x.half(0, 20, 19), 59);
        Due.is("WORDS", x.count(2), 19);
        x.restore();
        Due.is("the last ACT", x.write(5, 18, 9), 59);
        Due.is("its WORD", x.word(60, 18), 9);
    }

    /** Who MAY is asked of the WRITER in wp, at place 0, too. */
    private static void writerOfWp() {
        fresh(3);
        x.shut(1, 5);
        Due.is("who shut it writes", x.write(1, 100, 5), 1);
        Due.is("who shut it mends", x.write(5, 100, 6), 2);
        Due.is("another one", x.write(1, 200, 5), Due.STATE);
        Due.promise(4);
        Due.is("another one", x.cut(200), Due.STATE);
        Due.is("who shut it takes out", x.cut(100), 3);
        Due.is("WRITER", x.actIs(3, 1), 1);
    }

    private static void cut() {
        fresh(4);
        x.write(1, 0, 5);
        x.write(1, 1, 6);
        x.write(1, 2, 7);
        Due.is("cut(301)", x.cut(301), 3);
        Due.page(x, 4, 5, 7);
        Due.origins(x, 4, 0, 2);
        Due.is("KIND", x.actIs(3, 0), 0);
        Due.is("what it was of", x.actIs(3, 3), 6);
        Due.is("place 2 of 2", x.cut(2), Due.BEYOND);
        Due.is("WRITER 8", x.cut(800), Due.BEYOND);
        Due.is("wp -1", x.cut(-1), Due.BEYOND);
        Due.is("wp -100", x.cut(-100), Due.BEYOND);
        Due.is("the last", x.cut(701), 4);
        Due.is("the only", x.cut(0), 5);
        Due.page(x, 6);
        Due.is("none is there", x.cut(0), Due.BEYOND);
        x.write(1, 0, 5);
        x.shut(1, 1);
        Due.is("STATE", x.cut(0), Due.STATE);
        Due.is("BEYOND first", x.cut(1), Due.BEYOND);
        x.go(1);
        fillsActs();
        Due.is("FULL", x.cut(0), Due.FULL);
        x.shut(1, 1);
        Due.is("nothing came", x.count(2), 1);
        Due.text(x, 0, "0");
        Due.is("STATE ahead of FULL", x.cut(0), Due.STATE);
    }

    private static void back() {
        fresh(5);
        x.write(1, 0, 5);
        x.write(1, 101, 6);
        x.write(5, 200, 7);
        Due.is("back(3, 2)", x.back(3, 2), 3);
        Due.page(x, 4, 5, 6);
        Due.origins(x, 4, 0, 1);
        Due.is("back(3, 0)", x.back(3, 0), 4);
        Due.page(x, 5);
        Due.is("to the latest", x.back(7, 5), 5);
        Due.page(x, 6);
        Due.is("from an empty PAGE", x.back(6, 3), 6);
        Due.page(x, 7, 7, 6);
        Due.origins(x, 7, 2, 1);
        Due.is("KIND", x.actIs(6, 0), 2);
        Due.is("what it was of", x.actIs(6, 3), 3);
        Due.is("VERSION 8", x.back(0, 8), Due.BEYOND);
        Due.is("VERSION -1", x.back(0, -1), Due.BEYOND);
        Due.is("WRITER 8", x.back(8, 0), Due.BEYOND);
        Due.is("WRITER -1", x.back(-1, 0), Due.BEYOND);
        Due.text(x, 0, "0");
        Due.is("STATE", x.back(0, 0), Due.STATE);
        Due.is("BEYOND first", x.back(0, 8), Due.BEYOND);
        x.untell(0);
        fillsActs();
        Due.is("FULL", x.back(0, 0), Due.FULL);
        Due.text(x, 0, "0");
        Due.is("STATE ahead of FULL", x.back(0, 0), Due.STATE);
    }

    private static void half() {
        fresh(6);
        x.write(1, 0, 1);
        x.write(1, 1, 2);
        x.back(0, 0);
        for (int i = 0; i < 4; i++) {
            x.write(1, i, 11 + i);
        }
        Due.is("one place", x.half(1, 2, 1), 7);
        Due.page(x, 8, 1, 12, 13, 14);
        Due.origins(x, 8, 0, 4, 5, 6);
        Due.is("the VERSION has fewer", x.half(1, 2, 3), 8);
        Due.page(x, 9, 1, 2, 14);
        Due.origins(x, 9, 0, 1, 6);
        Due.is("no place", x.half(1, 2, 0), 9);
        Due.page(x, 10, 1, 2, 14);
        Due.is("as many as THE PAGE has", x.half(1, 7, 3), 10);
        Due.page(x, 11, 11, 12, 13);
        Due.is("THE PAGE has fewer", x.half(1, 7, 20), 11);
        Due.page(x, 12, 11, 12, 13, 14);
        Due.is("as a BACK, if n is large", x.half(1, 2, 20), 12);
        Due.page(x, 13, 1, 2);
        Due.is("THE PAGE stays behind", x.half(1, 0, 1), 13);
        Due.page(x, 14, 2);
        Due.origins(x, 14, 1);
        Due.is("a WORD twice", x.half(1, 7, 1), 14);
        Due.is("a WORD twice", x.half(1, 14, 0), 15);
        Due.is("KIND", x.actIs(15, 0), 3);
        Due.is("what it was of", x.actIs(15, 3), 14);
        Due.is("n 21", x.half(0, 0, 21), Due.BEYOND);
        Due.is("n -1", x.half(0, 0, -1), Due.BEYOND);
        Due.is("VERSION 17", x.half(0, 17, 0), Due.BEYOND);
        Due.is("VERSION -1", x.half(0, -1, 0), Due.BEYOND);
        Due.is("WRITER 8", x.half(8, 0, 0), Due.BEYOND);
        Due.text(x, 0, "0");
        Due.is("STATE", x.half(0, 0, 0), Due.STATE);
        Due.is("BEYOND first", x.half(0, 0, 21), Due.BEYOND);
        x.untell(0);
        fillsPage();
        Due.is("20 WORDS are no more than 20", x.half(0, 7, 4), x.count(1) - 1);
        Due.is("20 WORDS", x.count(2), 20);
        int full = x.count(1);
        Due.is("one of 20 by one of 20", x.half(0, full, 1), full);
        Due.is("all of 20 by all of 20", x.half(0, full, 20), full + 1);
        Due.is("20 WORDS", x.count(2), 20);
        fillsActs();
        Due.is("FULL", x.half(0, 0, 0), Due.FULL);
        Due.text(x, 0, "0");
        Due.is("STATE ahead of FULL", x.half(0, 0, 0), Due.STATE);
    }

    private static void halfDoubles() {
        fresh(6);
        x.write(1, 0, 3);
        x.write(1, 1, 4);
        x.write(1, 0, 5);
        Due.is("half(0, 1, 1)", x.half(0, 1, 1), 3);
        Due.page(x, 4, 3, 3, 4);
        Due.origins(x, 4, 0, 0, 1);
    }

    private static void shut() {
        fresh(7);
        x.write(1, 0, 9);
        x.go(100);
        Due.is("shut(2, 10)", x.shut(2, 10), 1);
        Due.page(x, 2, 9);
        Due.is("KIND", x.actIs(1, 0), 6);
        Due.is("what it was of", x.actIs(1, 3), 110);
        Due.is("count(3)", x.count(3), 110);
        Due.is("for all others", x.may(0) + x.may(1) + x.may(3) + x.may(7), 0);
        Due.is("who did it may", x.may(2), 1);
        Due.is("others may not shut it", x.shut(3, 1), Due.STATE);
        Due.is("nor talk", x.talk(3, 1), Due.STATE);
        x.go(9);
        Due.is("the last MINUTE", x.may(0), 0);
        Due.is("in place of the one ahead", x.shut(2, 3), 2);
        Due.is("count(3)", x.count(3), 112);
        x.go(2);
        Due.is("MINUTE 111", x.may(0), 0);
        x.go(1);
        Due.is("MINUTE 112 not", x.may(0), 1);
        Due.is("shut(0, 9999)", x.shut(0, 9999), 3);
        Due.is("sooner", x.shut(0, 1), 4);
        Due.is("count(3)", x.count(3), 113);
        Due.is("a BACK does not open", x.back(0, 0), 5);
        Due.is("a BACK does not open", x.may(1), 0);
        Due.is("minutes 0", x.shut(0, 0), Due.BEYOND);
        Due.is("minutes 10000", x.shut(0, 10000), Due.BEYOND);
        Due.is("WRITER 8", x.shut(8, 1), Due.BEYOND);
        Due.is("WRITER -1", x.shut(-1, 1), Due.BEYOND);
        Due.is("BEYOND first", x.shut(1, 0), Due.BEYOND);
        x.go(1);
        fillsActs();
        Due.is("FULL", x.shut(0, 1), Due.FULL);
        Due.is("count(3) stays", x.count(3), 113);
        Due.text(x, 0, "0");
        Due.is("STATE ahead of FULL", x.shut(0, 1), Due.STATE);
    }

    private static void shutBeyondTheLastMinute() {
        fresh(7);
        x.go(9999);
        x.go(9999);
        x.go(9999);
        x.shut(1, 9999);
        Due.is("count(3)", x.count(3), 39996);
        Due.is("what it was of", x.actIs(0, 3), 39996);
    }

    private static void talk() {
        fresh(8);
        x.write(1, 0, 9);
        Due.is("talk(4, 999)", x.talk(4, 999), 1);
        Due.is("talk(4, 1)", x.talk(4, 1), 2);
        Due.page(x, 3, 9);
        Due.origins(x, 3, 0);
        Due.is("KIND", x.actIs(1, 0), 7);
        Due.is("what it was of", x.actIs(1, 3), 999);
        Due.is("n 0", x.talk(4, 0), Due.BEYOND);
        Due.is("n 1000", x.talk(4, 1000), Due.BEYOND);
        Due.is("WRITER 8", x.talk(8, 1), Due.BEYOND);
        Due.is("WRITER -1", x.talk(-1, 1), Due.BEYOND);
        Due.text(x, 0, "w=5");
        Due.is("STATE", x.talk(4, 1), Due.STATE);
        Due.is("BEYOND first", x.talk(4, 0), Due.BEYOND);
        Due.is("another WRITER", x.talk(5, 1), 3);
        x.untell(0);
        fillsActs();
        Due.is("FULL", x.talk(4, 1), Due.FULL);
        Due.text(x, 0, "w=5");
        Due.is("STATE ahead of FULL", x.talk(4, 1), Due.STATE);
        Due.is("60 VERSIONS and the empty one", x.word(60, -1), 1);
        Due.is("no more", x.word(61, -1), Due.BEYOND);
    }

    private static void actIs() {
        fresh(9);
        x.go(7);
        x.write(1, 300, 9);
        x.go(1);
        x.cut(400);
        x.score(1, 55);
        int[] first = {1, 3, 7, 9, 1, -1};
        int[] second = {0, 4, 8, 9, -1, 55};
        for (int what = 0; what < 6; what++) {
            Due.is("actIs(0, " + what + ")", x.actIs(0, what), first[what]);
            Due.is("actIs(1, " + what + ")", x.actIs(1, what), second[what]);
        }
        Due.is("what 6", x.actIs(0, 6), Due.BEYOND);
        Due.is("what -1", x.actIs(0, -1), Due.BEYOND);
        Due.is("ACT 2", x.actIs(2, 0), Due.BEYOND);
        Due.is("ACT -1", x.actIs(-1, 0), Due.BEYOND);
    }

    /** UNDONE by its definition: the first later ACT, and only if the ACT made a difference. */
    private static void undone() {
        fresh(9);
        x.write(1, 0, 5);
        x.talk(1, 1);
        x.write(5, 0, 5);
        x.write(1, 101, 6);
        x.write(1, 202, 7);
        x.back(3, 1);
        x.back(4, 0);
        x.write(1, 500, 5);
        x.back(6, 0);
        Due.is("by a later one", x.actIs(0, 4), 6);
        Due.is("a TALK never", x.actIs(1, 4), -1);
        Due.is("a MENDING by the same WORD never", x.actIs(2, 4), -1);
        Due.is("by a BACK further than it", x.actIs(3, 4), 5);
        Due.is("not by what is not ALIKE", x.actIs(4, 4), -1);
        Due.is("not yet", x.actIs(5, 4), -1);
        Due.is("by other ORIGINS", x.actIs(6, 4), 7);
        Due.is("by the first one alone", x.actIs(7, 4), 8);
        Due.is("the latest", x.actIs(8, 4), -1);
    }

    private static void as() {
        fresh(10);
        x.write(1, 100, 9);
        x.cut(100);
        x.back(1, 1);
        x.half(1, 1, 1);
        x.write(4, 100, 9);
        x.write(5, 100, 9);
        x.talk(1, 9);
        x.shut(1, 9);
        int[] kinds = {1, 0, 2, 3, 4, 5, 7, 6};
        int[] above = {-1, 0, 0, 2, 1, 1, 0, 0};
        for (int act = 0; act < 8; act++) {
            for (int kind = 0; kind < 8; kind++) {
                int own = kinds[act];
                boolean is = kind == 0 || kind == own || kind == above[own];
                Due.is("as(" + act + ", " + kind + ")", x.as(act, kind), is ? 1 : Due.KIND);
            }
        }
        Due.is("kind 8", x.as(0, 8), Due.BEYOND);
        Due.is("kind -1", x.as(0, -1), Due.BEYOND);
        Due.is("ACT 8", x.as(8, 0), Due.BEYOND);
        Due.is("ACT -1", x.as(-1, 0), Due.BEYOND);
        Due.is("told(5)", x.told(5), 46);
    }

    private static void wordAndOrigin() {
        fresh(11);
        x.talk(3, 3);
        x.write(1, 0, 60);
        x.write(1, 0, 1);
        Due.is("how many", x.word(3, -1), 2);
        Due.is("word(3, 0)", x.word(3, 0), 1);
        Due.is("word(3, 1)", x.word(3, 1), 60);
        Due.is("word(3, 2)", x.word(3, 2), Due.BEYOND);
        Due.is("word(3, -2)", x.word(3, -2), Due.BEYOND);
        Due.is("word(4, -1)", x.word(4, -1), Due.BEYOND);
        Due.is("word(-1, -1)", x.word(-1, -1), Due.BEYOND);
        Due.is("an earlier VERSION has fewer", x.word(2, 1), Due.BEYOND);
        Due.promise(12);
        Due.is("origin(3, 0)", x.origin(3, 0), 2);
        Due.is("origin(3, 1)", x.origin(3, 1), 1);
        Due.is("origin(3, 2)", x.origin(3, 2), Due.BEYOND);
        Due.is("origin(3, -1)", x.origin(3, -1), Due.BEYOND);
        Due.is("origin(4, 0)", x.origin(4, 0), Due.BEYOND);
        Due.is("origin(-1, 0)", x.origin(-1, 0), Due.BEYOND);
        x.back(0, 0);
        x.back(0, 3);
        x.talk(0, 1);
        Due.origins(x, 6, 2, 1);
        x.write(5, 1, 60);
        Due.origins(x, 7, 2, 6);
    }

    private static void may() {
        fresh(13);
        Due.is("WRITER 8", x.may(8), Due.BEYOND);
        Due.is("WRITER -1", x.may(-1), Due.BEYOND);
        Due.text(x, 0, "w*5-20");
        Due.is("RULE 0", x.may(4), 0);
        Due.is("RULE below 0", x.may(3), 1);
        Due.is("RULE above 1", x.may(6), 1);
        x.shut(6, 5);
        Due.is("shut, RULE not 0", x.may(3), 0);
        Due.is("who shut it", x.may(6), 1);
        Due.text(x, 0, "w<6");
        Due.is("who shut it, RULE 0", x.may(6), 0);
        x.go(5);
        Due.is("not shut, RULE 0", x.may(6), 0);
        Due.is("not shut, RULE not 0", x.may(3), 1);
    }

    public static void main(String[] args) {
        newObject();
        go();
        write();
        writeErrorsInOrder();
        theLastAct();
        writerOfWp();
        cut();
        back();
        half();
        halfDoubles();
        shut();
        shutBeyondTheLastMinute();
        talk();
        actIs();
        undone();
        as();
        wordAndOrigin();
        may();
        Due.ends();
    }
}
