/** The document's sentences on VERSIONS: point 3 of Terms up to OFF, promises 19 to 27. */
final class EdgesOfVersions {
    private static final int MIN = Integer.MIN_VALUE;
    private static final int MAX = Integer.MAX_VALUE;
    private static PageWars x;

    private EdgesOfVersions() {
    }

    private static void of(int promise, String sentence) {
        Due.sentence(promise, sentence);
        x = new PageWars();
    }

    /** THE PAGE becomes these WORDS, by ACTS of WRITER 0: its VERSION. */
    private static int puts(int... words) {
        x.back(0, 0);
        for (int i = 0; i < words.length; i++) {
            x.write(1, i, words[i]);
        }
        return x.count(1);
    }

    // ---- Terms: 3

    private static void alikeOnes() {
        of(0, "ALIKE are VERSIONS of the same WORDS in the same order (ORIGINS don't matter)");
        int first = puts(5, 6);
        int second = puts(5, 6);
        int turned = puts(6, 5);
        int longer = puts(5, 6, 6);
        int other = puts(5, 7);
        Due.is("of other ORIGINS", x.alike(first, second), 1);
        Due.is("they are others", x.origin(first, 0) == x.origin(second, 0) ? 1 : 0, 0);
        Due.is("in another order", x.alike(first, turned), 0);
        Due.is("the beginning", x.alike(first, longer), 0);
        Due.is("the longer one", x.alike(longer, first), 0);
        Due.is("the last one is another", x.alike(first, other), 0);
        Due.is("both empty", x.alike(0, 1), 1);
        Due.is("one is empty", x.alike(0, 2), 0);
        Due.is("one is empty", x.alike(2, 0), 0);
        Due.is("one and the same", x.alike(longer, longer), 1);
        x = new PageWars();
        for (int i = 0; i < 20; i++) {
            x.write(1, i, 1 + i);
        }
        x.write(5, 19, 60);
        Due.is("of 20 the last", x.alike(20, 21), 0);
        x.write(5, 19, 20);
        Due.is("all 20", x.alike(20, 22), 1);
    }

    private static void likenesses() {
        of(0, "LIKENESS: 100 times the longest row of WORDS that stands in both in that order (with "
                + "others between), by how many the longer one has, cut; 100 if both are empty");
        Due.is("both empty", x.likeness(0, 0), 100);
        int five = puts(1, 2, 3, 4, 5);
        Due.is("one is empty", x.likeness(0, five), 0);
        Due.is("one is empty", x.likeness(five, 0), 0);
        Due.is("both empty", x.likeness(0, 1), 100);
        Due.is("one and the same", x.likeness(five, five), 100);
        int apart = puts(1, 9, 3, 9, 5, 9);
        Due.is("3 of 6, with others between", x.likeness(five, apart), 50);
        Due.is("the other way", x.likeness(apart, five), 50);
        int turned = puts(5, 4, 3, 2, 1);
        Due.is("1 of 5", x.likeness(five, turned), 20);
        int greedy = puts(5, 1, 2, 3);
        Due.is("the longest, not the first", x.likeness(five, greedy), 60);
        Due.is("the other way", x.likeness(greedy, five), 60);
        int none = puts(8, 8);
        Due.is("none", x.likeness(five, none), 0);
        x = new PageWars();
        int twice = puts(7, 7, 7);
        int once = puts(7);
        Due.is("each stands for one", x.likeness(twice, once), 33);
        Due.is("each stands for one", x.likeness(once, twice), 33);
    }

    private static void likenessesOf20() {
        Due.sentence(20, "LIKENESS");
        x = new PageWars();
        for (int i = 0; i < 20; i++) {
            x.write(1, i, 1 + i);
        }
        for (int k = 0; k <= 20; k++) {
            Due.is("VERSION " + k + " and 20", x.likeness(k, 20), 5 * k);
            Due.is("VERSION 20 and " + k, x.likeness(20, k), 5 * k);
        }
        Due.is("600 by 7", x.likeness(6, 7), 85);
        Due.is("1800 by 19", x.likeness(18, 19), 94);
        x.write(5, 0, 60);
        x.write(5, 19, 60);
        Due.is("18 of 20", x.likeness(20, 22), 90);
        x.half(0, 0, 10);
        Due.is("9 of 20: the end", x.likeness(20, 23), 45);
        Twins.ask("it changes nothing", Twins::busy, x -> x.likeness(9, 2), 33);
    }

    private static void undone() {
        of(0, "An ACT i is UNDONE by the first later ACT behind which THE PAGE is ALIKE the VERSION "
                + "ahead of i, if those ahead of and behind i are not ALIKE");
        x.write(1, 0, 5);
        Due.is("none is later", x.actIs(0, 4), -1);
        x.cut(100);
        Due.is("by the next", x.actIs(0, 4), 1);
        x.back(2, 0);
        Due.is("by the first", x.actIs(0, 4), 1);
        Due.is("not by one that is not ALIKE", x.actIs(1, 4), -1);
        x.write(4, 300, 5);
        Due.is("1 by other ORIGINS", x.actIs(1, 4), 3);
        Due.is("2 not: ahead of and behind it are ALIKE", x.actIs(2, 4), -1);
        x.write(5, 0, 5);
        x.write(5, 0, 6);
        x.write(5, 0, 5);
        Due.is("the same WORD in its place: never", x.actIs(4, 4), -1);
        Due.is("another: by the one that put it back", x.actIs(5, 4), 6);
        x.talk(0, 1);
        x.shut(0, 1);
        x.back(0, x.count(1));
        x.half(0, 0, 0);
        x.back(0, 0);
        for (int act = 7; act < 11; act++) {
            Due.is("what changed nothing: never", x.actIs(act, 4), -1);
        }
        Due.is("3 by the last", x.actIs(3, 4), 11);
        Due.is("6 not: VERSION 6 was ahead of it", x.actIs(6, 4), -1);
        Due.is("no ACT by itself", x.actIs(11, 4), -1);
    }

    /** One ACT that UNDID several at once, and one ACT that UNDID an undoing. */
    private static void undoneTogether() {
        Due.sentence(25, "How many WORDS of THE PAGE are of ACTS of a WRITER (what 0), that one's "
                + "STAYS of all ACTS (1), ACTS of that one that are UNDONE (2), BACKs (and under "
                + "it) in the last 1440 MINUTES (3), the MINUTE from which on that one is OFF (4; "
                + "NONE)");
        x = new PageWars();
        x.write(1, 0, 5);
        x.write(1, 101, 6);
        x.cut(201);
        x.write(1, 301, 6);
        x.cut(401);
        // 1 by 2, 2 by 3, 3 by 4.
        for (int writer = 1; writer < 4; writer++) {
            Due.is("UNDONE of " + writer, x.writerIs(writer, 2), 1);
        }
        Due.is("UNDONE of 0", x.writerIs(0, 2), 0);
        Due.is("UNDONE of 4", x.writerIs(4, 2), 0);
        x.back(5, 0);
        Due.is("UNDONE of 0", x.writerIs(0, 2), 1);
        Due.is("UNDONE by that one's own", x.write(1, 500, 7) + x.cut(500), 6 + 7);
        Due.is("is counted, too", x.writerIs(5, 2), 1);
    }

    private static void wars() {
        of(0, "A WAR from an ACT: it, the one that UNDID it, the one that UNDID that, and so on");
        x.talk(0, 1);
        Due.is("it alone", x.war(0, 0), 1);
        Due.is("it alone", x.war(0, 1), 0);
        x.write(1, 0, 5);
        x.cut(0);
        x.talk(0, 1);
        x.write(1, 0, 5);
        x.write(1, 0, 6);
        x.cut(0);
        x.cut(0);
        // 1 by 2, 2 by 4, 4 by 7; 5 by 6.
        int[] lengths = {1, 4, 3, 1, 2, 2, 1, 1};
        int[] last = {0, 7, 7, 3, 7, 6, 6, 7};
        for (int act = 0; act < 8; act++) {
            Due.is("war(" + act + ", 0)", x.war(act, 0), lengths[act]);
            Due.is("war(" + act + ", 1)", x.war(act, 1), last[act]);
        }
        x = new PageWars();
        for (int i = 0; i < 30; i++) {
            x.write(1, 0, 1);
            x.cut(0);
        }
        for (int act = 0; act < 60; act++) {
            Due.is("of 60, from " + act, x.war(act, 0), 60 - act);
        }
        Due.is("its last", x.war(0, 1), 59);
        Due.is("its last", x.war(59, 1), 59);
    }

    private static void sides() {
        of(0, "SIDES: WRITERS of its first, third, .. ones, of its second, fourth, .. ones (bits)");
        int[] writers = {0, 7, 3, 7, 0, 6, 1, 3};
        for (int i = 0; i < 8; i++) {
            if (i % 2 == 0) {
                x.write(1, 100 * writers[i], 5);
            } else {
                x.cut(100 * writers[i]);
            }
        }
        Due.is("0, 3, 0, 1", x.war(0, 2), 1 | 8 | 2);
        Due.is("7, 7, 6, 3", x.war(0, 3), 128 | 64 | 8);
        Due.is("from the second", x.war(1, 2), 128 | 64 | 8);
        Due.is("from the second", x.war(1, 3), 8 | 1 | 2);
        Due.is("the last one", x.war(7, 2), 8);
        Due.is("has no other side", x.war(7, 3), 0);
        Due.is("two", x.war(6, 2) * 1000 + x.war(6, 3), 2008);
    }

    private static void staying() {
        of(0, "STAYS of an ACT: for each WORD of which it is the ORIGIN (each place by itself): all "
                + "MINUTES up to NOW in which it was there (of a MINUTE the latest VERSION is the "
                + "one that is there; NOW doesn't count)");
        x.write(1, 0, 5);
        Due.is("NOW doesn't count", x.stays(0), 0);
        x.go(1);
        Due.is("MINUTE 0", x.stays(0), 1);
        x.cut(0);
        x.go(1);
        Due.is("gone in MINUTE 1", x.stays(0), 1);
        x.write(1, 0, 6);
        x.cut(0);
        x.go(1);
        Due.is("there and gone in one MINUTE", x.stays(2), 0);
        x.back(0, 1);
        x.back(0, 0);
        x.back(0, 1);
        x.go(10);
        Due.is("the latest of MINUTE 3", x.stays(0), 11);
        x.write(1, 0, 5);
        x.half(0, 1, 1);
        Due.page(x, x.count(1), 5, 5);
        x.go(10);
        Due.is("two places of one ORIGIN", x.stays(0), 31);
        Due.is("none is left of that", x.stays(7), 0);
        x.talk(0, 1);
        x.go(1);
        Due.is("a TALK takes nothing", x.stays(0), 33);
        Due.is("a BACK is of no WORD", x.stays(4), 0);
        x = new PageWars();
        x.go(9);
        x.write(1, 0, 5);
        x.go(9990);
        Due.is("not those ahead of it", x.stays(0), 9990);
    }

    private static void reading() {
        of(0, "READ at a MINUTE: the latest VERSION of ACTS up to that MINUTE");
        x.go(2);
        x.write(1, 0, 5);
        x.talk(0, 1);
        x.go(2);
        x.cut(0);
        x.go(2);
        int[] due = {0, 0, 2, 2, 3, 3, 3};
        for (int minute = 0; minute < due.length; minute++) {
            Due.is("read(" + minute + ")", x.read(minute), due[minute]);
        }
        x.write(1, 0, 5);
        Due.is("one more in NOW", x.read(6), 4);
        Due.is("ahead of it", x.read(5), 3);
    }

    private static void off() {
        of(0, "A WRITER is OFF from the MINUTE on in which the third one of that one's ACTS was "
                + "UNDONE (by another WRITER's)");
        for (int i = 0; i < 4; i++) {
            Due.is(i + " UNDONE", x.writerIs(3, 4), i < 3 ? Due.NONE : 30);
            x.write(1, 300, 5);
            x.go(10);
            x.cut(400);
        }
        Due.is("the third, not the fourth", x.writerIs(3, 4), 30);
        Due.is("three of the other one's, too", x.writerIs(4, 2), 3);
        Due.is("by 3's", x.writerIs(4, 4), 30);
        x = new PageWars();
        for (int i = 0; i < 4; i++) {
            x.write(1, 300, 5);
            x.go(10);
            x.cut(300);
        }
        Due.is("by that one's own", x.writerIs(3, 2), 7);
        Due.is("is not OFF", x.writerIs(3, 4), Due.NONE);
        x = new PageWars();
        x.write(1, 300, 5);
        x.write(1, 301, 6);
        x.write(1, 302, 7);
        x.back(4, 2);
        x.back(4, 1);
        x.back(4, 0);
        Due.is("in MINUTE 0", x.writerIs(3, 4), 0);
        Due.is("acts as ever", x.may(3), 1);
        // 2 is UNDONE, then 0; 1 never is.
        x = new PageWars();
        x.write(1, 300, 5);
        x.write(1, 301, 6);
        x.write(1, 302, 7);
        x.go(1);
        x.back(4, 2);
        x.go(1);
        x.back(4, 0);
        Due.is("two of three", x.writerIs(3, 4), Due.NONE);
        x.write(1, 300, 8);
        x.go(1);
        x.cut(400);
        Due.is("then the third", x.writerIs(3, 4), 3);
        Due.is("one is not UNDONE", x.actIs(1, 4), -1);
    }

    // ---- promises 19 to 27

    private static void alike() {
        of(19, "1 if two VERSIONS are ALIKE, else 0");
        Twins.ask("ALIKE", Twins::busy, x -> x.alike(1, 3), 1);
        Twins.ask("not", Twins::busy, x -> x.alike(1, 2), 0);
        Due.is("one and the same", x.alike(0, 0), 1);
        of(19, "BEYOND");
        Twins.refuseVersions(version -> x -> x.alike(version, 0));
        Twins.refuseVersions(version -> x -> x.alike(0, version));
        Twins.refuseVersions(version -> x -> x.alike(version, version));
        of(20, "BEYOND");
        Twins.refuseVersions(version -> x -> x.likeness(version, 0));
        Twins.refuseVersions(version -> x -> x.likeness(0, version));
    }

    private static void from() {
        of(21, "Of a VERSION: the earlier one (not the one right ahead) with the greatest LIKENESS, "
                + "of like ones the latest");
        x.write(1, 0, 1);
        x.write(1, 1, 2);
        Due.is("of one there is", x.from(2), 0);
        x.talk(0, 1);
        Due.is("not the one right ahead", x.from(3), 1);
        x.talk(0, 1);
        Due.is("the greatest", x.from(4), 2);
        x.talk(0, 1);
        Due.is("of like ones the latest", x.from(5), 3);
        x.write(5, 0, 9);
        Due.is("50 each: the latest", x.from(6), 4);
        x.back(0, 0);
        Due.is("the empty one", x.from(7), 0);
        x.write(1, 0, 30);
        Due.is("0 each: the latest", x.from(8), 6);
        x.write(5, 0, 1);
        Due.is("VERSION 1", x.from(9), 1);
        Due.is("later ones are not asked", x.from(3), 1);
        Twins.ask("it changes nothing", Twins::busy, x -> x.from(9), 7);
        fromByWhatIsCut();
        of(21, "BEYOND: no such VERSION");
        Twins.refuseVersions(version -> x -> x.from(version));
        of(21, "NONE: there are fewer than two ahead of it");
        Twins.refuse("none", Twins::busy, x -> x.from(0), Due.NONE);
        Twins.refuse("one", Twins::busy, x -> x.from(1), Due.NONE);
        Twins.refuse("none, of a new object", Twins::fresh, x -> x.from(0), Due.NONE);
        Twins.ask("two", Twins::busy, x -> x.from(2), 0);
    }

    /** 6 of 19 and 5 of 16 are both 31 when cut, so the later one is told. */
    private static void fromByWhatIsCut() {
        x = new PageWars();
        for (int i = 0; i < 13; i++) {
            x.write(1, i, 20 + i);
        }
        for (int i = 0; i < 6; i++) {
            x.write(1, 0, 6 - i);
        }
        x.cut(0);
        x.cut(17);
        x.cut(16);
        x.back(0, 0);
        x.half(0, 19, 6);
        Due.page(x, 24, 1, 2, 3, 4, 5, 6);
        Due.is("6 of 19", x.likeness(24, 19), 31);
        Due.is("5 of 16", x.likeness(24, 22), 31);
        Due.is("of like ones the latest", x.from(24), 22);
    }

    private static void war() {
        of(22, "WAR from an ACT: 0 how many ACTS, 1 the last of these, 2, 3 its SIDES");
        // Of busy(): 1 by 2.
        int[] due = {2, 2, 2, 4};
        for (int k = 0; k < 4; k++) {
            int what = k;
            Twins.ask("war(1, " + what + ")", Twins::busy, x -> x.war(1, what), due[what]);
        }
        of(22, "BEYOND");
        for (int k = 0; k < 4; k++) {
            int what = k;
            Twins.refuseActs(act -> x -> x.war(act, what));
        }
        Twins.refuseEach("what", what -> x -> x.war(0, what), -1, 4, MIN, MAX);
        of(23, "The ACT from which a WAR has the most ACTS, of like ones the least");
        x.talk(0, 1);
        Due.is("the only one", x.longest(), 0);
        x.talk(0, 1);
        Due.is("of like ones the least", x.longest(), 0);
        x.write(1, 0, 5);
        x.cut(0);
        Due.is("the longest", x.longest(), 2);
        x.write(1, 0, 6);
        x.cut(0);
        // 2 by 3, 4 by 5: two each.
        Due.is("of like ones the least", x.longest(), 2);
        x.write(1, 0, 6);
        // 5 by 6: three from 4.
        Due.is("a longer one", x.longest(), 4);
        Twins.ask("it changes nothing", Twins::busy, x -> x.longest(), 1);
        x = new PageWars();
        for (int i = 0; i < 58; i++) {
            x.talk(0, 1);
        }
        x.write(1, 0, 5);
        x.cut(0);
        Due.is("the last two of 60", x.longest(), 58);
        of(23, "NONE: there are no ACTS");
        Twins.refuse("none", Twins::fresh, x -> x.longest(), Due.NONE);
        x.image();
        x.talk(0, 1);
        x.restore();
        Due.is("none any more", x.longest(), Due.NONE);
    }

    private static void stays() {
        of(24, "STAYS");
        // Of busy(): WORD 5 in 0 to 9; back in 10 and gone at once; of HALF from 10 on.
        Twins.ask("ACT 0", Twins::busy, x -> x.stays(0), 10 + 1493);
        Twins.ask("ACT 1", Twins::busy, x -> x.stays(1), 10);
        Twins.ask("ACT 3", Twins::busy, x -> x.stays(3), 0);
        of(24, "BEYOND");
        Twins.refuseActs(act -> x -> x.stays(act));
    }

    private static void writerIs() {
        of(25, "How many WORDS of THE PAGE are of ACTS of a WRITER (what 0), that one's STAYS of all "
                + "ACTS (1), ACTS of that one that are UNDONE (2), BACKs (and under it) in the last "
                + "1440 MINUTES (3), the MINUTE from which on that one is OFF (4; NONE)");
        Twins.ask("WORDS of 0", Twins::busy, x -> x.writerIs(0, 0), 2);
        Twins.ask("WORDS of 4", Twins::busy, x -> x.writerIs(4, 0), 1);
        Twins.ask("WORDS of 7", Twins::busy, x -> x.writerIs(7, 0), 0);
        Twins.ask("STAYS of 0", Twins::busy, x -> x.writerIs(0, 1), 10 + 1493 + 1493);
        Twins.ask("STAYS of 7", Twins::busy, x -> x.writerIs(7, 1), 0);
        Twins.ask("UNDONE of 1", Twins::busy, x -> x.writerIs(1, 2), 1);
        Twins.ask("UNDONE of 7", Twins::busy, x -> x.writerIs(7, 2), 0);
        Twins.ask("BACKs of 2", Twins::busy, x -> x.writerIs(2, 3), 0);
        Twins.refuse("1 is not OFF", Twins::busy, x -> x.writerIs(1, 4), Due.NONE);
        for (int k = 0; k < 8; k++) {
            int writer = k;
            Twins.refuse(writer + " is not OFF", Twins::fresh, x -> x.writerIs(writer, 4),
                    Due.NONE);
        }
        x.write(1, 700, 9);
        x.go(5);
        Due.is("STAYS of VERSION 1", x.writerIs(7, 1), 5);
        x.back(2, 0);
        x.half(2, 0, 0);
        x.talk(2, 1);
        Due.is("in NOW", x.writerIs(2, 3), 2);
        Due.is("of another", x.writerIs(3, 3), 0);
        x.go(1439);
        Due.is("1439 ahead of it", x.writerIs(2, 3), 2);
        x.go(1);
        Due.is("1440 ahead of it", x.writerIs(2, 3), 0);
        writerIsOf60();
        of(25, "BEYOND");
        for (int k = 0; k < 5; k++) {
            int what = k;
            Twins.refuseWriters(writer -> x -> x.writerIs(writer, what));
        }
        Twins.refuseEach("what", what -> x -> x.writerIs(0, what), -1, 5, MIN, MAX);
    }

    /** 60 ACTS and 20 WORDS: the last row of each kind that there is. */
    private static void writerIsOf60() {
        x = new PageWars();
        for (int i = 0; i < 20; i++) {
            x.write(1, 700 + i, 1 + i);
        }
        for (int i = 20; i < 60; i++) {
            x.back(5, i);
        }
        x.go(1);
        int[][] due = {{0, 0, 0, 0, Due.NONE}, {0, 0, 0, 40, Due.NONE}, {20, 20, 0, 0, Due.NONE}};
        for (int what = 0; what < 5; what++) {
            Due.is("of 0, what " + what, x.writerIs(0, what), due[0][what]);
            Due.is("of 5, what " + what, x.writerIs(5, what), due[1][what]);
            Due.is("of 7, what " + what, x.writerIs(7, what), due[2][what]);
        }
    }

    private static void read() {
        of(26, "READ: the VERSION");
        Twins.ask("MINUTE 0", Twins::busy, x -> x.read(0), 2);
        Twins.ask("MINUTE 9", Twins::busy, x -> x.read(9), 2);
        Twins.ask("MINUTE 10", Twins::busy, x -> x.read(10), 8);
        Twins.ask("NOW", Twins::busy, x -> x.read(1503), 9);
        Due.is("of a new object", x.read(0), 0);
        of(26, "BEYOND: a MINUTE of 0 to NOW");
        Twins.refuseEach("MINUTE", minute -> x -> x.read(minute), -1, 1504, 29999, 30000, MIN, MAX);
        Twins.refuse("MINUTE 1", Twins::fresh, x -> x.read(1), Due.BEYOND);
    }

    private static void wrong() {
        of(27, "In how many MINUTES from one to another one (that one not; up to NOW) what was READ "
                + "is ALIKE a VERSION");
        // Of busy(): VERSION 2 in 0 to 9, 8 in 10 to 1499, 9 (ALIKE it) up to NOW, 1503.
        Twins.ask("all", Twins::busy, x -> x.wrong(8, 0, 1503), 1493);
        Twins.ask("as a later one that is ALIKE", Twins::busy, x -> x.wrong(9, 0, 1503), 1493);
        Twins.ask("VERSION 2", Twins::busy, x -> x.wrong(2, 0, 1503), 10);
        Twins.ask("VERSION 0", Twins::busy, x -> x.wrong(0, 0, 1503), 0);
        Twins.ask("from 9 on", Twins::busy, x -> x.wrong(2, 9, 1503), 1);
        Twins.ask("from 10 on", Twins::busy, x -> x.wrong(2, 10, 1503), 0);
        Twins.ask("to 10, that one not", Twins::busy, x -> x.wrong(8, 0, 10), 0);
        Twins.ask("to 11", Twins::busy, x -> x.wrong(8, 0, 11), 1);
        Twins.ask("no MINUTE", Twins::busy, x -> x.wrong(8, 20, 20), 0);
        Twins.ask("NOW alone: no MINUTE", Twins::busy, x -> x.wrong(8, 1503, 1503), 0);
        Twins.ask("the last MINUTE", Twins::busy, x -> x.wrong(8, 1502, 1503), 1);
        Due.is("of a new object", x.wrong(0, 0, 0), 0);
        x.go(7);
        Due.is("ahead of all ACTS", x.wrong(0, 0, 7), 7);
        x.write(1, 0, 5);
        Due.is("NOW is none of them", x.wrong(1, 0, 7), 0);
        of(27, "BEYOND: VERSION, MINUTES (from above to, to above NOW, too)");
        Twins.refuseVersions(version -> x -> x.wrong(version, 0, 0));
        Twins.refuseEach("from", from -> x -> x.wrong(0, from, 10), -1, 11, 1503, MIN, MAX);
        Twins.refuseEach("to", to -> x -> x.wrong(0, 10, to), -1, 9, 1504, 30000, MIN, MAX);
        Twins.refuseEach("both", both -> x -> x.wrong(0, both, both), -1, 1504, MIN, MAX);
        Twins.refuse("to 1", Twins::fresh, x -> x.wrong(0, 0, 1), Due.BEYOND);
    }

    static void all() {
        alikeOnes();
        likenesses();
        likenessesOf20();
        undone();
        undoneTogether();
        wars();
        sides();
        staying();
        reading();
        off();
        alike();
        from();
        war();
        stays();
        writerIs();
        read();
        wrong();
    }
}
