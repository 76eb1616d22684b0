/** The document's sentences on ERRORS, point 1 of Terms, promises 1 to 13, each at its bounds. */
final class EdgesOfPages {
    private static final int MIN = Integer.MIN_VALUE;
    private static final int MAX = Integer.MAX_VALUE;
    private static PageWars x;

    private EdgesOfPages() {
    }

    private static void of(int promise, String sentence) {
        Due.sentence(promise, sentence);
        x = new PageWars();
    }

    private static void talks(int acts) {
        for (int i = x.count(1); i < acts; i++) {
            x.talk(0, 1);
        }
    }

    private static void writes(int words) {
        for (int i = x.count(2); i < words; i++) {
            x.write(1, i, 1 + i);
        }
    }

    private static void beyond(String what, Twins.Call call) {
        Twins.refuse(what, Twins::busy, call, Due.BEYOND);
    }

    // ---- Terms: ERRORS

    private static void errorNumbers() {
        of(0, "ERRORS are answers below -1000000: LOW is -1000000; LOW - 1 BEYOND, LOW - 2 NONE, "
                + "LOW - 3 STATE, LOW - 4 FULL, LOW - 5 KIND, LOW - 6 PARTED (in longs likewise)");
        Due.is("BEYOND", x.go(0), -1000001);
        Due.is("NONE", x.longest(), -1000002);
        Due.is("STATE", x.sheet(0, 8, -1), -1000003);
        for (int i = 0; i < 24; i++) {
            x.tell(i);
        }
        Due.is("FULL", x.tell(0), -1000004);
        talks(3);
        Due.is("KIND", x.as(0, 1), -1000005);
        Due.is("PARTED", x.voice(2, 3, 1), -1000006);
        for (int k = 1; k <= 6; k++) {
            Due.is("told(" + k + ")", x.told(k), 1);
        }
        Due.is("LOW itself is no ERROR", x.voice(0, 0, -1000000), -1000000);
        Due.is("a number like one of them", x.voice(0, 0, -1000003), -1000003);
        Due.is("a number like one of them", x.seed(-1000004) + x.seed(1), -1000003);
        Due.is("is none", x.told(3) + x.told(4), 2);
    }

    private static void errorsInOrder() {
        of(0, "Each act tells its ERRORS in the order in which they are asked; one that answers an "
                + "ERROR changes nothing but what told() tells, or where told");
        Twins.refuse("BEYOND, STATE, FULL", Twins::fullOfActs, x -> x.write(1, 600, 0), Due.BEYOND);
        Twins.refuse("STATE, FULL", Twins::fullOfActs, x -> x.write(1, 600, 1), Due.STATE);
        Twins.refuse("FULL", Twins::fullOfActs, x -> x.write(1, 0, 1), Due.FULL);
        Twins.refuse("NONE", Twins::busy, x -> x.put(3, 0, 1), Due.NONE);
        Twins.refuse("KIND", Twins::busy, x -> x.as(0, 2), Due.KIND);
    }

    private static void quotients() {
        of(0, "Quotients are cut toward 0");
        x.write(1, 0, 1);
        x.write(1, 1, 2);
        x.write(1, 2, 3);
        Due.is("200 by 3", x.likeness(2, 3), 66);
        Due.is("100 by 3", x.likeness(1, 3), 33);
        Due.is("7 by -2", x.voice(0, 3, 7), -3);
        Due.is("-7 by -2", x.voice(0, 3, -7), 3);
        Due.text(x, 0, "(0-7)/2=0-3");
        Due.is("-7 by 2", x.may(0), 1);
        Due.text(x, 0, "(0-7)/(0-2)=3");
        Due.is("-7 by -2", x.may(0), 1);
        x.untell(0);
        x.half(0, 0, 0);
        Due.is("-7 by 2, of a HALF", x.voice(3, 1, -7), 6);
    }

    // ---- Terms: 1

    private static void minutes() {
        of(0, "MINUTES go from 0 to 29999; NOW is one (0 at first)");
        Due.is("NOW at first", x.count(0), 0);
        x.write(1, 0, 1);
        Due.is("an ACT in MINUTE 0", x.actIs(0, 2), 0);
        for (int i = 0; i < 3; i++) {
            x.go(9999);
        }
        Due.is("the last MINUTE", x.go(2), 29999);
        x.write(1, 0, 2);
        Due.is("an ACT in the last MINUTE", x.actIs(1, 2), 29999);
        Due.is("read there", x.read(29999), 2);
        Due.is("read ahead of it", x.read(29998), 1);
        Due.is("no MINUTE 30000", x.go(1), Due.STATE);
        Due.is("no MINUTE 30000", x.live(1), Due.STATE);
        Due.is("no MINUTE 30000", x.read(30000), Due.BEYOND);
        Due.is("STAYS up to it", x.stays(0), 29999);
        Due.is("STAYS up to it", x.stays(1), 0);
    }

    private static void pageAndWords() {
        of(0, "THE PAGE is a row of WORDS (numbers 1 to 60), at most 20");
        Due.is("WORD 1", x.write(1, 0, 1), 0);
        Due.is("WORD 60", x.write(1, 1, 60), 1);
        Due.is("WORD 0", x.write(1, 2, 0), Due.BEYOND);
        Due.is("WORD 61", x.write(1, 2, 61), Due.BEYOND);
        Due.page(x, 2, 1, 60);
        writes(19);
        Due.is("the 20th", x.write(1, 0, 33), 19);
        Due.is("20", x.count(2), 20);
        Due.is("the 21st", x.write(1, 0, 34), Due.FULL);
        Due.page(x, 20, 33, 1, 60, 3, 4, 5, 6, 7, 8, 9, 10, 11, 12, 13, 14, 15, 16, 17, 18, 19);
    }

    private static void writers() {
        of(0, "WRITERS are 0 to 7");
        for (int writer = 0; writer < 8; writer++) {
            Due.is("WRITER " + writer, x.talk(writer, 1), writer);
            Due.is("WRITER " + writer, x.actIs(writer, 1), writer);
        }
        Due.is("WRITER 8", x.talk(8, 1), Due.BEYOND);
        Due.is("WRITER -1", x.talk(-1, 1), Due.BEYOND);
    }

    private static void acts() {
        of(0, "ACTS 0, 1, .. (at most 60), each of a WRITER in a MINUTE, of KINDS: 0 ACT, 1 NEW "
                + "under ACT, 2 BACK under ACT, 3 HALF under BACK, 4 BOYISH under NEW, 5 MENDING "
                + "under NEW, 6 SHUTTING under ACT, 7 TALK under ACT");
        int[] numbers = {x.write(1, 200, 9), x.cut(200), x.back(2, 1), x.half(2, 1, 1),
            x.write(4, 200, 9), x.write(5, 200, 9), x.shut(2, 1), x.talk(2, 9)};
        int[] kinds = {1, 0, 2, 3, 4, 5, 6, 7};
        int[] above = {0, 0, 0, 2, 1, 1, 0, 0};
        for (int act = 0; act < 8; act++) {
            int kind = kinds[act];
            Due.is("the ACT", numbers[act], act);
            Due.is("its KIND", x.actIs(act, 0), kind);
            for (int k = 0; k < 8; k++) {
                boolean is = k == 0 || k == kind || k == above[kind];
                Due.is("KIND " + kind + " as " + k, x.as(act, k), is ? 2 : Due.KIND);
            }
        }
        for (int act = 8; act < 60; act++) {
            Due.is("the next ACT", x.talk(2, 1), act);
        }
        Due.is("no 61st", x.talk(2, 1), Due.FULL);
    }

    private static void versions() {
        of(0, "VERSION 0 is the empty PAGE; VERSION k + 1 is THE PAGE behind ACT k (that of a "
                + "TALK, a SHUTTING is as the one ahead of it)");
        Due.is("VERSION 0", x.word(0, -1), 0);
        x.talk(0, 1);
        Due.is("behind a TALK on an empty PAGE", x.word(1, -1), 0);
        x.write(1, 0, 5);
        x.write(1, 1, 6);
        x.talk(1, 1);
        x.shut(1, 1);
        Due.is("VERSION 0", x.word(0, -1), 0);
        Due.page(x, 2, 5);
        Due.page(x, 3, 5, 6);
        Due.page(x, 4, 5, 6);
        Due.page(x, 5, 5, 6);
        Due.origins(x, 4, 1, 2);
        Due.origins(x, 5, 1, 2);
        Due.is("no VERSION 6", x.word(6, -1), Due.BEYOND);
        x.go(1);
        talks(60);
        Due.page(x, 60, 5, 6);
        Due.is("no VERSION 61", x.word(61, -1), Due.BEYOND);
    }

    private static void origins() {
        of(0, "Each WORD of a VERSION has an ORIGIN: the ACT that put it in");
        x.write(1, 0, 5);
        x.write(4, 0, 5);
        x.write(5, 101, 5);
        Due.origins(x, 1, 0);
        Due.origins(x, 2, 1, 0);
        Due.origins(x, 3, 1, 2);
        x.cut(0);
        Due.origins(x, 4, 2);
        x.back(3, 2);
        Due.origins(x, 5, 1, 0);
        x.half(3, 3, 2);
        Due.origins(x, 6, 1, 2);
        talks(59);
        x.write(1, 1, 9);
        Due.origins(x, 60, 1, 59, 2);
    }

    private static void shapes() {
        of(0, "A NEW or BOYISH one puts a WORD in at a place (those from there on go one further); "
                + "a MENDING one puts it in place of one; an ACT (KIND 0) takes one out; a BACK "
                + "makes THE PAGE as a VERSION (ORIGINS, too); a HALF makes the first n places as "
                + "those of a VERSION (at most as many as it has), and leaves behind these what "
                + "THE PAGE has from place n on (as told, though the VERSION has fewer)");
        x.write(1, 0, 11);
        x.write(4, 0, 12);
        x.write(1, 2, 13);
        x.write(4, 1, 14);
        Due.page(x, 4, 12, 14, 11, 13);
        x.write(5, 0, 15);
        x.write(5, 3, 16);
        Due.page(x, 6, 15, 14, 11, 16);
        x.cut(0);
        x.cut(2);
        x.cut(0);
        Due.page(x, 9, 11);
        x.cut(0);
        Due.page(x, 10);
        x.back(0, 6);
        Due.page(x, 11, 15, 14, 11, 16);
        Due.origins(x, 11, 4, 3, 0, 5);
        x.back(0, 11);
        Due.page(x, 12, 15, 14, 11, 16);
        x.back(0, 0);
        Due.page(x, 13);
    }

    /** HALF by n: below, at and above what the VERSION and THE PAGE have. */
    private static void halves() {
        Due.sentence(6, "A HALF: the ACT");
        int[][] pages = {
            {11, 12, 13, 14}, {1, 12, 13, 14}, {1, 2, 13, 14}, {1, 2, 14}, {1, 2}, {1, 2}};
        for (int n = 0; n < pages.length; n++) {
            x = new PageWars();
            x.write(1, 0, 1);
            x.write(1, 1, 2);
            x.back(0, 0);
            for (int i = 0; i < 4; i++) {
                x.write(1, i, 11 + i);
            }
            Due.is("half(0, 2, " + n + ")", x.half(0, 2, n), 7);
            Due.page(x, 8, pages[n]);
            // The other way: THE PAGE has fewer than the VERSION.
            x.back(0, 2);
            x.half(0, 7, n);
            int[][] others = {{1, 2}, {11, 2}, {11, 12}, {11, 12, 13}, {11, 12, 13, 14},
                {11, 12, 13, 14}};
            Due.page(x, 10, others[n]);
        }
        x = new PageWars();
        x.write(1, 0, 1);
        Due.is("an empty VERSION, place 0", x.half(0, 0, 0), 1);
        Due.page(x, 2, 1);
        Due.is("an empty VERSION, all places", x.half(0, 0, 20), 2);
        Due.page(x, 3);
        Due.is("an empty PAGE", x.half(0, 1, 20), 3);
        Due.page(x, 4, 1);
        Due.is("as one of THE PAGE itself", x.half(0, 4, 1), 4);
        Due.page(x, 5, 1);
        Due.origins(x, 5, 0);
    }

    private static void shuttings() {
        of(0, "A SHUTTING shuts THE PAGE up to a MINUTE (that one not) for all but who did it; "
                + "TALK has a number of WORDS elsewhere");
        x.go(7);
        x.shut(4, 2);
        for (int minute = 7; minute < 9; minute++) {
            for (int writer = 0; writer < 8; writer++) {
                Due.is("may(" + writer + ") in " + minute, x.may(writer), writer == 4 ? 1 : 0);
            }
            x.go(1);
        }
        for (int writer = 0; writer < 8; writer++) {
            Due.is("may(" + writer + ") in 9", x.may(writer), 1);
        }
        x.write(1, 0, 5);
        Due.is("a TALK", x.talk(0, 7), 2);
        Due.is("puts no WORD in", x.count(2), 1);
        Due.is("its number", x.actIs(2, 3), 7);
        Due.is("is of no WORD's STAYS", x.go(5) * 100 + x.stays(2), 1400);
    }

    private static void mays() {
        of(0, "A WRITER MAY act, if THE PAGE is not shut for them, and RULE (2 below) isn't 0 "
                + "(without a TEXT: so)");
        Due.is("without a TEXT", x.may(3), 1);
        Due.text(x, 0, "w-3");
        Due.is("RULE 0", x.may(3), 0);
        Due.is("RULE below 0", x.may(2), 1);
        Due.is("RULE above 0", x.may(7), 1);
        x.shut(7, 1);
        Due.is("shut, RULE isn't 0", x.may(2), 0);
        Due.is("shut, RULE 0", x.may(3), 0);
        Due.is("not shut for them, RULE isn't 0", x.may(7), 1);
        Due.text(x, 0, "w-7");
        Due.is("not shut for them, RULE 0", x.may(7), 0);
        Due.is("OFF or not is not asked", x.untell(0) + x.may(7), 2);
    }

    // ---- promises 1 to 8

    private static void newObject() {
        of(1, "VERSION 0 alone; nothing is told");
        for (int k = 1; k <= 6; k++) {
            Due.is("told(" + k + ")", x.told(k), 0);
        }
        int[] counts = {0, 0, 0, 0, 0, 0, 0, 1};
        for (int what = 0; what < 8; what++) {
            Due.is("count(" + what + ")", x.count(what), counts[what]);
            Due.is("no TEXT", x.untell(what), 0);
            Due.is("all MAY", x.may(what), 1);
        }
        Due.is("the best", x.best(), 0);
        Due.is("READ", x.read(0), 0);
        Due.is("VERSION 0", x.word(0, -1), 0);
        Due.is("no WORD", x.word(0, 0), Due.BEYOND);
        Due.is("no VERSION 1", x.word(1, -1), Due.BEYOND);
        Due.is("no ACT 0", x.actIs(0, 0), Due.BEYOND);
        Due.is("no WAR", x.longest(), Due.NONE);
        Due.is("no IMAGE", x.restore(), Due.NONE);
        Due.is("no TRACE", x.body(0), Due.NONE);
        for (int sheet = 0; sheet < 4; sheet++) {
            Due.is("no SHEET", x.words(sheet, 0), Due.NONE);
        }
        PageWars other = new PageWars();
        x.write(1, 0, 5);
        x.go(9);
        Due.is("nothing of another object", other.count(0) + other.count(1), 0);
    }

    private static void go() {
        of(2, "n MINUTES (1 to 9999) go by: NOW");
        Due.is("the least", x.go(1), 1);
        Due.is("the most", x.go(9999), 10000);
        Due.is("NOW", x.count(0), 10000);
        of(2, "BEYOND");
        for (int n : new int[] {0, -1, 10000, MIN, MAX}) {
            beyond("go(" + n + ")", x -> x.go(n));
            Twins.refuse("go(" + n + "), late", Twins::late, x -> x.go(n), Due.BEYOND);
        }
        of(2, "STATE: it would be above 29999");
        for (int n : new int[] {2, 3, 9999}) {
            Twins.refuse("at 29998, go(" + n + ")", Twins::late, x -> x.go(n), Due.STATE);
        }
        Twins.late(x);
        Due.is("just so", x.go(1), 29999);
        Due.is("one more", x.go(1), Due.STATE);
        Due.is("NOW", x.count(0), 29999);
        x = new PageWars();
        x.go(9999);
        x.go(9999);
        x.go(2);
        Due.is("at 20000", x.go(9999), 29999);
    }

    private static void write() {
        of(3, "A NEW (kind 1), BOYISH (4), MENDING (5) one (wp: 100 times the WRITER, and the "
                + "place): the ACT (the MACHINE's, if it takes it back, comes behind that)");
        writes(18);
        Due.is("WRITER 7, place 18", x.write(1, 718, 50), 18);
        Due.is("WRITER 6, place 19", x.write(4, 619, 51), 19);
        Due.is("WRITER 5, place 19", x.write(5, 519, 52), 20);
        int[] writers = {7, 6, 5};
        int[] kinds = {1, 4, 5};
        for (int k = 0; k < 3; k++) {
            Due.is("WRITER", x.actIs(18 + k, 1), writers[k]);
            Due.is("KIND", x.actIs(18 + k, 0), kinds[k]);
            Due.is("WORD", x.word(19 + k, Math.min(18 + k, 19)), 50 + k);
        }
        x = new PageWars();
        Due.text(x, 1, "1");
        Due.is("it is taken back", x.write(1, 0, 5), 0);
        Due.is("it is taken back", x.count(1), 2);
        Due.is("so the next", x.write(4, 0, 5), 2);
        Due.is("the MACHINE's behind it", x.actIs(3, 1), 7);
    }

    private static void writeBeyond() {
        of(3, "BEYOND: KIND, WRITER, WORD, place (NEW, BOYISH: 0 to as many as there are; "
                + "MENDING: one that there is)");
        for (int kind : new int[] {-1, 0, 2, 3, 6, 7, 8, MIN, MAX}) {
            beyond("KIND " + kind, x -> x.write(kind, 0, 1));
        }
        for (int kind : new int[] {1, 4, 5}) {
            for (int wp : new int[] {-1, -100, -200, 800, 801, 900, MIN, MAX}) {
                beyond("KIND " + kind + ", wp " + wp, x -> x.write(kind, wp, 1));
            }
            for (int word : new int[] {0, 61, -1, MIN, MAX}) {
                beyond("KIND " + kind + ", WORD " + word, x -> x.write(kind, 0, word));
            }
            // busy() has three WORDS.
            int first = kind == 5 ? 3 : 4;
            for (int place : new int[] {first, first + 1, 20, 21, 99}) {
                beyond("KIND " + kind + ", place " + place, x -> x.write(kind, 100 + place, 1));
            }
            Due.is("as many as there are", busy().write(kind, 100 + first - 1, 1), 9);
            Due.is("place 0", busy().write(kind, 100, 1), 9);
        }
        Twins.refuse("MENDING on an empty PAGE", Twins::fresh, x -> x.write(5, 0, 1), Due.BEYOND);
        Twins.refuse("place 1 of an empty PAGE", Twins::fresh, x -> x.write(1, 1, 1), Due.BEYOND);
        Twins.refuse("place 20 of 20", Twins::fullOfWords, x -> x.write(5, 20, 1), Due.BEYOND);
        Twins.refuse("place 21 of 20", Twins::fullOfWords, x -> x.write(1, 21, 1), Due.BEYOND);
        Twins.refuse("60 ACTS, too", Twins::fullOfActs, x -> x.write(1, 4, 1), Due.BEYOND);
        Twins.refuse("who MAY not, too", Twins::busy, x -> x.write(1, 604, 1), Due.BEYOND);
    }

    private static PageWars busy() {
        PageWars busy = new PageWars();
        Twins.busy(busy);
        return busy;
    }

    private static void writeRefused() {
        of(3, "STATE: the WRITER MAY not");
        for (int kind : new int[] {1, 4, 5}) {
            Twins.refuse("by RULE", Twins::busy, x -> x.write(kind, 600, 1), Due.STATE);
            Twins.refuse("shut", EdgesOfPages::shutByOne, x -> x.write(kind, 0, 1), Due.STATE);
            Due.is("who shut it", shutBusy().write(kind, 100, 1), 10);
            Twins.refuse("60 ACTS, too", Twins::fullOfActs, x -> x.write(kind, 600, 1), Due.STATE);
        }
        Twins.refuse("20 WORDS, too", Twins::fullOfWords, x -> x.write(1, 620, 1), Due.STATE);
        of(3, "FULL: 60 ACTS; THE PAGE (NEW, BOYISH)");
        for (int kind : new int[] {1, 4, 5}) {
            Twins.refuse("60 ACTS", Twins::fullOfActs, x -> x.write(kind, 0, 1), Due.FULL);
            PageWars last = new PageWars();
            Twins.busyWithActs(last, 59);
            Due.is("59 ACTS", last.write(kind, 0, 1), 59);
        }
        for (int kind : new int[] {1, 4}) {
            for (int place : new int[] {0, 19, 20}) {
                Twins.refuse("20 WORDS", Twins::fullOfWords, x -> x.write(kind, place, 1),
                        Due.FULL);
            }
            x = new PageWars();
            writes(19);
            Due.is("19 WORDS", x.write(kind, 19, 1), 19);
        }
        Twins.fullOfWords(x = new PageWars());
        Due.is("MENDING needs no room", x.write(5, 19, 1), x.count(1) - 1);
        Due.is("20 still", x.count(2), 20);
    }

    private static void shutByOne(PageWars x) {
        Twins.busy(x);
        x.shut(1, 5);
    }

    private static PageWars shutBusy() {
        PageWars busy = new PageWars();
        shutByOne(busy);
        return busy;
    }

    /** STATE by RULE and by a SHUTTING, ahead of FULL; FULL by 60 ACTS and not by 59. */
    private static void stateOf(int promise, Twins.CallOf by) {
        of(promise, "STATE");
        Twins.refuse("by RULE", Twins::busy, by.of(6), Due.STATE);
        Twins.refuse("shut", EdgesOfPages::shutByOne, by.of(0), Due.STATE);
        Twins.refuse("STATE ahead of FULL", Twins::fullOfActs, by.of(6), Due.STATE);
        Due.is("who shut it", by.of(1).on(shutBusy()), 10);
        PageWars open = shutBusy();
        open.go(5);
        Due.is("that MINUTE not", by.of(0).on(open), 10);
    }

    private static void fullOf(int promise, String sentence,
            Twins.CallOf by) {
        of(promise, sentence);
        Twins.refuse("60 ACTS", Twins::fullOfActs, by.of(0), Due.FULL);
        PageWars last = new PageWars();
        Twins.busyWithActs(last, 59);
        Due.is("59 ACTS", by.of(0).on(last), 59);
        Due.is("then 60", by.of(0).on(last), Due.FULL);
        Due.is("60", last.count(1), 60);
    }

    /** The last ACT of all on a PAGE of 20 WORDS: the last row, to its last place. */
    private static void lastActOfAll() {
        of(0, "ACTS 0, 1, .. (at most 60), each of a WRITER in a MINUTE, of KINDS: 0 ACT, 1 NEW "
                + "under ACT, 2 BACK under ACT, 3 HALF under BACK, 4 BOYISH under NEW, 5 MENDING "
                + "under NEW, 6 SHUTTING under ACT, 7 TALK under ACT");
        Twins.Call[] calls = {x -> x.cut(0), x -> x.cut(10), x -> x.cut(19), x -> x.back(0, 59),
            x -> x.back(0, 0), x -> x.half(0, 20, 20), x -> x.half(0, 20, 0), x -> x.half(0, 0, 1),
            x -> x.write(5, 0, 60), x -> x.write(5, 19, 60), x -> x.talk(0, 1), x -> x.shut(0, 1)};
        int[] words = {19, 19, 19, 20, 0, 20, 20, 19, 20, 20, 20, 20};
        int[] last = {20, 20, 19, 20, 0, 20, 20, 20, 20, 60, 20, 20};
        for (int k = 0; k < calls.length; k++) {
            x = new PageWars();
            writes(20);
            talks(59);
            Due.is("ACT 59, call " + k, calls[k].on(x), 59);
            Due.is("WORDS behind call " + k, x.count(2), words[k]);
            Due.is("the last of them", words[k] == 0 ? 0 : x.word(60, words[k] - 1), last[k]);
            Due.is("ALIKE with itself", x.alike(60, 60) * 100 + x.likeness(60, 60), 200);
        }
        x = new PageWars();
        writes(19);
        talks(59);
        Due.is("the 20th WORD by the 60th ACT", x.write(1, 0, 60), 59);
        Due.is("the last WORD", x.word(60, 19), 19);
        Due.is("the first one", x.word(60, 0), 60);
        Due.is("its ORIGIN", x.origin(60, 0), 59);
    }

    private static void cut() {
        of(4, "An ACT (KIND 0) takes out the WORD at a place: the ACT");
        writes(20);
        Due.is("the last place", x.cut(719), 20);
        Due.is("its WRITER", x.actIs(20, 1), 7);
        Due.is("its KIND", x.actIs(20, 0), 0);
        Due.is("its WORD", x.actIs(20, 3), 20);
        Due.is("place 0", x.cut(0), 21);
        Due.is("its WORD", x.actIs(21, 3), 1);
        Due.page(x, 22, 2, 3, 4, 5, 6, 7, 8, 9, 10, 11, 12, 13, 14, 15, 16, 17, 18, 19);
        Due.is("between", x.cut(3), 22);
        Due.page(x, 23, 2, 3, 4, 6, 7, 8, 9, 10, 11, 12, 13, 14, 15, 16, 17, 18, 19);
        Due.origins(x, 23, 1, 2, 3, 5, 6, 7, 8, 9, 10, 11, 12, 13, 14, 15, 16, 17, 18);
        of(4, "BEYOND");
        for (int wp : new int[] {-1, -100, 3, 4, 20, 99, 103, 800, 802, MIN, MAX}) {
            beyond("wp " + wp, x -> x.cut(wp));
        }
        Due.is("place 2 of 3", busy().cut(2), 9);
        Twins.refuse("an empty PAGE", Twins::fresh, x -> x.cut(0), Due.BEYOND);
        Twins.refuse("who MAY not, too", Twins::busy, x -> x.cut(603), Due.BEYOND);
        Twins.refuse("60 ACTS, too", Twins::fullOfActs, x -> x.cut(3), Due.BEYOND);
        stateOf(4, writer -> x -> x.cut(100 * writer));
        fullOf(4, "FULL: 60 ACTS", writer -> x -> x.cut(100 * writer));
    }

    private static void back() {
        of(5, "A BACK: the ACT");
        x.write(1, 0, 5);
        Due.is("to VERSION 0", x.back(0, 0), 1);
        Due.page(x, 2);
        Due.is("to the one behind that", x.back(7, 1), 2);
        Due.page(x, 3, 5);
        Due.is("to the latest", x.back(0, 3), 3);
        Due.page(x, 4, 5);
        Due.is("its KIND", x.actIs(3, 0), 2);
        x = new PageWars();
        Due.is("the first ACT of all", x.back(0, 0), 0);
        writes(20);
        x.back(0, 0);
        Due.is("to one of 20 WORDS", x.back(0, 21), 22);
        Due.is("20 WORDS", x.count(2), 20);
        Due.is("the last one", x.word(23, 19), 20);
        of(5, "BEYOND: WRITER, no such VERSION");
        Twins.refuseWriters(writer -> x -> x.back(writer, 0));
        Twins.refuseVersions(version -> x -> x.back(0, version));
        Twins.refuse("who MAY not, too", Twins::busy, x -> x.back(6, 10), Due.BEYOND);
        Twins.refuse("60 ACTS, too", Twins::fullOfActs, x -> x.back(0, 61), Due.BEYOND);
        stateOf(5, writer -> x -> x.back(writer, 0));
        fullOf(5, "FULL", writer -> x -> x.back(writer, 0));
    }

    private static void half() {
        halves();
        of(6, "BEYOND: WRITER, VERSION, n (0 to 20)");
        Twins.refuseWriters(writer -> x -> x.half(writer, 0, 0));
        Twins.refuseVersions(version -> x -> x.half(0, version, 0));
        for (int n : new int[] {-1, 21, MIN, MAX}) {
            beyond("n " + n, x -> x.half(0, 0, n));
        }
        Due.is("n 0", busy().half(0, 0, 0), 9);
        Due.is("n 20", busy().half(0, 0, 20), 9);
        Twins.refuse("who MAY not, too", Twins::busy, x -> x.half(6, 0, 21), Due.BEYOND);
        Twins.refuse("60 ACTS, too", Twins::fullOfActs, x -> x.half(0, 0, -1), Due.BEYOND);
        stateOf(6, writer -> x -> x.half(writer, 1, 1));
        fullOf(6, "FULL: 60 ACTS; more than 20 WORDS would be there",
                writer -> x -> x.half(writer, 1, 1));
        // However they lie, the first n and those from place n on are 20 at most.
        x = new PageWars();
        writes(20);
        x.image();
        for (int n = 0; n <= 20; n++) {
            for (int version : new int[] {0, 1, 10, 20}) {
                Due.is("half(0, " + version + ", " + n + ") on 20", x.half(0, version, n), 20);
                Due.is("WORDS", x.count(2), Math.min(n, version) + 20 - n);
                x.restore();
            }
        }
    }

    private static void shut() {
        of(7, "A SHUTTING for so many MINUTES (1 to 9999) from NOW on, in place of one ahead: "
                + "the ACT");
        x.go(3);
        Due.is("the most", x.shut(1, 9999), 0);
        Due.is("up to", x.count(3), 10002);
        Due.is("the least, in its place", x.shut(1, 1), 1);
        Due.is("up to", x.count(3), 4);
        Due.is("the one ahead is told as it was", x.actIs(0, 3), 10002);
        Due.is("shut", x.may(0), 0);
        x.go(1);
        Due.is("open", x.may(0), 1);
        Due.is("by another one", x.shut(0, 2), 2);
        Due.is("not for that one", x.may(0), 1);
        Due.is("but for the one ahead", x.may(1), 0);
        x = new PageWars();
        for (int i = 0; i < 3; i++) {
            x.go(9999);
        }
        x.go(2);
        Due.is("in the last MINUTE", x.shut(1, 9999), 0);
        Due.is("up to", x.count(3), 39998);
        Due.is("up to", x.actIs(0, 3), 39998);
        of(7, "BEYOND");
        Twins.refuseWriters(writer -> x -> x.shut(writer, 1));
        for (int minutes : new int[] {0, -1, 10000, MIN, MAX}) {
            beyond("minutes " + minutes, x -> x.shut(0, minutes));
        }
        Twins.refuse("who MAY not, too", Twins::busy, x -> x.shut(6, 0), Due.BEYOND);
        Twins.refuse("60 ACTS, too", Twins::fullOfActs, x -> x.shut(0, 10000), Due.BEYOND);
        stateOf(7, writer -> x -> x.shut(writer, 1));
        fullOf(7, "FULL", writer -> x -> x.shut(writer, 1));
    }

    private static void talk() {
        of(8, "A TALK of n (1 to 999) WORDS: the ACT");
        Due.is("the least", x.talk(0, 1), 0);
        Due.is("the most", x.talk(7, 999), 1);
        Due.is("n", x.actIs(0, 3), 1);
        Due.is("n", x.actIs(1, 3), 999);
        Due.is("no WORD of THE PAGE", x.count(2), 0);
        of(8, "BEYOND");
        Twins.refuseWriters(writer -> x -> x.talk(writer, 1));
        for (int n : new int[] {0, -1, 1000, MIN, MAX}) {
            beyond("n " + n, x -> x.talk(0, n));
        }
        Twins.refuse("who MAY not, too", Twins::busy, x -> x.talk(6, 0), Due.BEYOND);
        Twins.refuse("60 ACTS, too", Twins::fullOfActs, x -> x.talk(0, 1000), Due.BEYOND);
        stateOf(8, writer -> x -> x.talk(writer, 1));
        fullOf(8, "FULL", writer -> x -> x.talk(writer, 1));
    }

    // ---- promises 9 to 13

    private static void actIs() {
        of(9, "Of an ACT: 0 KIND, 1 WRITER, 2 MINUTE, 3 what it was of (WORD put in; the one taken "
                + "out; VERSION; MINUTE up to which; TALK's n), 4 the ACT that UNDID it (-1), 5 "
                + "its SCORE (-1: none)");
        x.go(2);
        x.write(1, 0, 41);
        x.write(4, 100, 42);
        x.write(5, 200, 43);
        x.cut(301);
        x.back(4, 3);
        x.half(5, 4, 20);
        x.shut(6, 9);
        x.talk(6, 77);
        x.score(0, 0);
        x.score(7, 100);
        int[][] acts = {{1, 0, 2, 41, -1, 0}, {4, 1, 2, 42, -1, -1}, {5, 2, 2, 43, -1, -1},
            {0, 3, 2, 41, 4, -1}, {2, 4, 2, 3, 5, -1}, {3, 5, 2, 4, -1, -1}, {6, 6, 2, 11, -1, -1},
            {7, 6, 2, 77, -1, 100}};
        for (int act = 0; act < acts.length; act++) {
            for (int what = 0; what < 6; what++) {
                Due.is("actIs(" + act + ", " + what + ")", x.actIs(act, what), acts[act][what]);
            }
        }
        Twins.ask("it changes nothing", Twins::busy, x -> x.actIs(1, 5), 90);
        of(9, "BEYOND");
        for (int k = 0; k < 6; k++) {
            int what = k;
            Twins.refuseActs(act -> x -> x.actIs(act, what));
        }
        for (int what : new int[] {-1, 6, MIN, MAX}) {
            beyond("what " + what, x -> x.actIs(0, what));
        }
    }

    private static void as() {
        of(10, "An ACT as one of a KIND: its WRITER");
        x.half(7, 0, 0);
        x.write(4, 500, 1);
        Due.is("as its own", x.as(0, 3), 7);
        Due.is("as the one above", x.as(0, 2), 7);
        Due.is("as an ACT", x.as(0, 0), 7);
        Due.is("as an ACT", x.as(1, 0), 5);
        Due.is("as the one above", x.as(1, 1), 5);
        Due.is("as its own", x.as(1, 4), 5);
        of(10, "BEYOND");
        Twins.refuseActs(act -> x -> x.as(act, 0));
        for (int kind : new int[] {-1, 8, MIN, MAX}) {
            beyond("KIND " + kind, x -> x.as(0, kind));
        }
        of(10, "KIND: it is not of that KIND, nor of one under it");
        // Of busy(): 0 NEW, 1 BOYISH, 2 BACK, 3 MENDING, 5 HALF, 6 TALK, 8 SHUTTING.
        int[] acts = {0, 0, 0, 1, 1, 2, 2, 3, 3, 5, 5, 6, 6, 6, 8, 8};
        int[] kinds = {4, 5, 2, 5, 2, 3, 1, 4, 6, 1, 7, 6, 1, 2, 7, 3};
        for (int i = 0; i < acts.length; i++) {
            int act = acts[i];
            int kind = kinds[i];
            Twins.refuse("as(" + act + ", " + kind + ")", Twins::busy, x -> x.as(act, kind),
                    Due.KIND);
        }
    }

    private static void word() {
        of(11, "Place i of a VERSION (i -1: how many WORDS): its WORD");
        writes(20);
        Due.is("none", x.word(0, -1), 0);
        Due.is("one", x.word(1, -1), 1);
        Due.is("all", x.word(20, -1), 20);
        Due.is("place 0", x.word(20, 0), 1);
        Due.is("place 19", x.word(20, 19), 20);
        Due.is("of an earlier one", x.word(7, 6), 7);
        of(11, "BEYOND");
        Twins.refuseVersions(version -> x -> x.word(version, -1));
        Twins.refuseVersions(version -> x -> x.word(version, 0));
        for (int i : new int[] {-2, 3, 20, MIN, MAX}) {
            beyond("place " + i, x -> x.word(9, i));
        }
        beyond("place 0 of VERSION 0", x -> x.word(0, 0));
        beyond("place 2 of an earlier one", x -> x.word(2, 2));
        Twins.refuse("place 20", Twins::fullOfWords, x -> x.word(x.count(1), 20), Due.BEYOND);
        of(12, "ORIGIN of place i of a VERSION");
        writes(20);
        x.write(5, 0, 9);
        Due.is("place 0", x.origin(21, 0), 20);
        Due.is("place 0, ahead of that", x.origin(20, 0), 0);
        Due.is("place 19", x.origin(21, 19), 19);
        of(12, "BEYOND");
        Twins.refuseVersions(version -> x -> x.origin(version, 0));
        for (int i : new int[] {-1, -2, 3, 20, MIN, MAX}) {
            beyond("place " + i, x -> x.origin(9, i));
        }
        beyond("place 0 of VERSION 0", x -> x.origin(0, 0));
        Twins.refuse("place 20", Twins::fullOfWords, x -> x.origin(x.count(1), 20), Due.BEYOND);
    }

    private static void may() {
        of(13, "Whether a WRITER MAY act now: 1, 0");
        Twins.ask("one who MAY", Twins::busy, x -> x.may(7), 1);
        Twins.ask("one who MAY not", Twins::busy, x -> x.may(6), 0);
        Twins.ask("one for whom it is shut", EdgesOfPages::shutByOne, x -> x.may(0), 0);
        Twins.ask("who shut it", EdgesOfPages::shutByOne, x -> x.may(1), 1);
        Twins.ask("room is not asked", Twins::fullOfActs, x -> x.may(0), 1);
        Due.text(x, 0, "w*9999*9999*9999");
        Due.is("RULE 0", x.may(0), 0);
        Due.is("1, whatever RULE is", x.may(1), 1);
        of(13, "BEYOND");
        Twins.refuseWriters(writer -> x -> x.may(writer));
    }

    static void all() {
        errorNumbers();
        errorsInOrder();
        quotients();
        minutes();
        pageAndWords();
        writers();
        acts();
        versions();
        origins();
        shapes();
        shuttings();
        mays();
        newObject();
        go();
        write();
        writeBeyond();
        writeRefused();
        lastActOfAll();
        cut();
        back();
        half();
        shut();
        talk();
        actIs();
        as();
        word();
        may();
    }
}
