/** Promises 19 to 27: versions. */
public final class VersionsTest {
    private static PageWars x;

    private static void fresh(int promise) {
        Due.promise(promise);
        x = new PageWars();
    }

    private static void alike() {
        fresh(19);
        x.write(1, 0, 5);
        x.write(1, 1, 6);
        x.write(1, 0, 6);
        x.cut(2);
        x.write(1, 0, 5);
        x.cut(2);
        Due.page(x, 2, 5, 6);
        Due.page(x, 4, 6, 5);
        Due.page(x, 6, 5, 6);
        Due.is("of other ORIGINS", x.alike(2, 6), 1);
        Due.is("in another order", x.alike(2, 4), 0);
        Due.is("with itself", x.alike(4, 4), 1);
        Due.is("the beginning of the other", x.alike(1, 2), 0);
        Due.is("the other way", x.alike(2, 1), 0);
        Due.is("the empty one", x.alike(0, 0), 1);
        Due.is("the empty one", x.alike(0, 1), 0);
        Due.is("VERSION 7", x.alike(0, 7), Due.BEYOND);
        Due.is("VERSION 7", x.alike(7, 0), Due.BEYOND);
        Due.is("VERSION -1", x.alike(-1, 0), Due.BEYOND);
        Due.is("VERSION -1", x.alike(0, -1), Due.BEYOND);
    }

    private static void puts(int... words) {
        x.back(0, 0);
        for (int i = 0; i < words.length; i++) {
            x.write(1, i, words[i]);
        }
    }

    private static void likeness() {
        fresh(20);
        Due.is("both are empty", x.likeness(0, 0), 100);
        puts(1, 2, 3, 4, 5);
        int first = x.count(1);
        puts(2, 9, 4, 1, 5, 3, 7);
        int second = x.count(1);
        Due.is("2 4 5 of 7", x.likeness(first, second), 42);
        Due.is("the other way", x.likeness(second, first), 42);
        Due.is("one is empty", x.likeness(0, first), 0);
        Due.is("with itself", x.likeness(first, first), 100);
        puts(5, 4, 3, 2, 1);
        Due.is("turned round", x.likeness(first, x.count(1)), 20);
        puts(1, 1, 1);
        Due.is("the same WORD but once", x.likeness(first, x.count(1)), 20);
        puts(3, 4, 5);
        Due.is("the end of it", x.likeness(first, x.count(1)), 60);
        puts(8, 8);
        Due.is("nothing", x.likeness(first, x.count(1)), 0);
        Due.is("no such VERSION", x.likeness(0, x.count(1) + 1), Due.BEYOND);
        Due.is("no such VERSION", x.likeness(x.count(1) + 1, 0), Due.BEYOND);
        Due.is("VERSION -1", x.likeness(-1, 0), Due.BEYOND);
        Due.is("VERSION -1", x.likeness(0, -1), Due.BEYOND);
    }

    private static void likenessOfLongOnes() {
        fresh(20);
        for (int i = 0; i < 20; i++) {
            x.write(1, i, 1 + i % 2);
        }
        Due.is("20 and 19", x.likeness(20, 19), 95);
        x.write(5, 0, 2);
        x.write(5, 19, 1);
        Due.is("2 2 1 2 .. 1 1 of 20", x.likeness(20, 22), 90);
    }

    private static void from() {
        fresh(21);
        Due.is("none ahead", x.from(0), Due.NONE);
        Due.is("VERSION 1", x.from(1), Due.BEYOND);
        x.write(1, 0, 1);
        Due.is("one ahead", x.from(1), Due.NONE);
        x.write(1, 1, 2);
        Due.is("two ahead", x.from(2), 0);
        x.write(1, 2, 3);
        Due.is("not the one right ahead", x.from(3), 1);
        x.back(0, 2);
        Due.is("the likest", x.from(4), 2);
        x.back(0, 0);
        Due.is("the empty one", x.from(5), 0);
        x.talk(0, 1);
        Due.is("not the one right ahead", x.from(6), 0);
        x.talk(0, 1);
        Due.is("of like ones the latest", x.from(7), 5);
        x.write(1, 0, 9);
        Due.is("all unlike: the latest", x.from(8), 6);
        x.write(5, 0, 2);
        Due.is("1 2 and 1 2 : the latest", x.from(9), 4);
        Due.is("VERSION 10", x.from(10), Due.BEYOND);
        Due.is("VERSION -1", x.from(-1), Due.BEYOND);
        Due.is("told(2)", x.told(2), 2);
    }

    private static void war() {
        fresh(22);
        x.write(1, 100, 5);
        x.cut(200);
        x.write(1, 300, 5);
        x.talk(7, 7);
        x.cut(400);
        x.write(1, 100, 6);
        // 0 by 1, 1 by 2, 2 by 4.
        int[] whole = {4, 4, 1 << 1 | 1 << 3, 1 << 2 | 1 << 4};
        int[] rest = {3, 4, 1 << 2 | 1 << 4, 1 << 3};
        int[] alone = {1, 5, 1 << 1, 0};
        int[] talk = {1, 3, 1 << 7, 0};
        for (int what = 0; what < 4; what++) {
            Due.is("war(0, " + what + ")", x.war(0, what), whole[what]);
            Due.is("war(1, " + what + ")", x.war(1, what), rest[what]);
            Due.is("war(5, " + what + ")", x.war(5, what), alone[what]);
            Due.is("war(3, " + what + ")", x.war(3, what), talk[what]);
        }
        Due.is("what 4", x.war(0, 4), Due.BEYOND);
        Due.is("what -1", x.war(0, -1), Due.BEYOND);
        Due.is("ACT 6", x.war(6, 0), Due.BEYOND);
        Due.is("ACT -1", x.war(-1, 0), Due.BEYOND);
        fresh(22);
        for (int i = 0; i < 30; i++) {
            x.write(1, 0, 1);
            x.cut(100);
        }
        Due.is("of all ACTS", x.war(0, 0), 60);
        Due.is("its last", x.war(0, 1), 59);
        Due.is("its first side", x.war(0, 2), 1);
        Due.is("its second side", x.war(0, 3), 2);
        Due.promise(23);
        Due.is("longest", x.longest(), 0);
    }

    private static void longest() {
        fresh(23);
        Due.is("no ACTS", x.longest(), Due.NONE);
        x.talk(0, 1);
        Due.is("the least of like ones", x.longest(), 0);
        x.talk(0, 1);
        Due.is("the least of like ones", x.longest(), 0);
        x.write(1, 0, 5);
        x.write(1, 1, 6);
        x.cut(1);
        Due.is("3 by 4, and no other", x.longest(), 3);
        x.write(1, 1, 7);
        x.cut(1);
        Due.is("of like ones the least", x.longest(), 3);
        x.write(1, 1, 7);
        Due.is("4 not by 5, but 6 by 7", x.longest(), 5);
        Due.is("its length", x.war(5, 0), 3);
        fresh(23);
        x.talk(0, 1);
        x.write(1, 0, 5);
        x.cut(0);
        Due.is("1 by 2", x.longest(), 1);
    }

    private static void stays() {
        fresh(24);
        x.write(1, 0, 5);
        x.go(1);
        Due.is("MINUTE 0", x.stays(0), 1);
        fresh(24);
        x.go(10);
        x.write(1, 0, 5);
        Due.is("NOW does not count", x.stays(0), 0);
        x.go(4);
        Due.is("four MINUTES", x.stays(0), 4);
        x.write(1, 1, 6);
        x.back(1, 0);
        Due.is("within a MINUTE", x.stays(0), 4);
        x.go(100);
        Due.is("taken back", x.stays(0), 4);
        Due.is("not there at the MINUTE's end", x.stays(1), 0);
        x.back(1, 2);
        x.go(5);
        Due.is("back again", x.stays(0), 9);
        Due.is("back again", x.stays(1), 5);
        x.write(1, 0, 7);
        x.half(1, 1, 1);
        Due.page(x, 6, 5, 5, 6);
        x.go(3);
        Due.is("each place by itself", x.stays(0), 15);
        Due.is("stays(1)", x.stays(1), 8);
        Due.is("of no WORD", x.stays(2), 0);
        Due.is("taken away in the same MINUTE", x.stays(4), 0);
        Due.is("ACT 6", x.stays(6), Due.BEYOND);
        Due.is("ACT -1", x.stays(-1), Due.BEYOND);
        Due.promise(25);
        Due.is("WORDS of 0", x.writerIs(0, 0), 3);
        Due.is("STAYS of 0", x.writerIs(0, 1), 23);
        Due.is("STAYS of 1", x.writerIs(1, 1), 0);
    }

    private static void writerIs() {
        fresh(25);
        x.write(1, 0, 5);
        x.write(1, 101, 6);
        x.write(1, 102, 7);
        x.write(5, 2, 8);
        Due.is("WORDS of 0", x.writerIs(0, 0), 2);
        Due.is("WORDS of 1", x.writerIs(1, 0), 1);
        Due.is("WORDS of 2", x.writerIs(2, 0), 0);
        x.go(10);
        Due.is("STAYS of 0", x.writerIs(0, 1), 20);
        Due.is("STAYS of 1", x.writerIs(1, 1), 10);
        x.back(2, 2);
        x.back(2, 0);
        x.half(2, 1, 1);
        Due.is("no WORD of one who put back", x.writerIs(2, 0), 0);
        Due.is("WORDS of 0", x.writerIs(0, 0), 1);
        Due.is("UNDONE of 0", x.writerIs(0, 2), 1);
        Due.is("UNDONE of 1", x.writerIs(1, 2), 2);
        Due.is("UNDONE of 2", x.writerIs(2, 2), 0);
        Due.is("BACKs of 2", x.writerIs(2, 3), 3);
        Due.is("BACKs of 0", x.writerIs(0, 3), 0);
        x.go(1439);
        Due.is("BACKs in 1440 MINUTES", x.writerIs(2, 3), 3);
        x.go(1);
        Due.is("BACKs in 1440 MINUTES", x.writerIs(2, 3), 0);
        Due.is("what 5", x.writerIs(0, 5), Due.BEYOND);
        Due.is("what -1", x.writerIs(0, -1), Due.BEYOND);
        Due.is("WRITER 8", x.writerIs(8, 0), Due.BEYOND);
        Due.is("WRITER -1", x.writerIs(-1, 0), Due.BEYOND);
    }

    private static void off() {
        fresh(25);
        for (int i = 0; i < 2; i++) {
            x.write(1, 300, 5);
            x.go(1);
            x.cut(400);
        }
        Due.is("two", x.writerIs(3, 4), Due.NONE);
        Due.is("told(2)", x.told(2), 1);
        x.write(1, 300, 5);
        x.go(1);
        x.cut(300);
        Due.is("the third by that one's own", x.writerIs(3, 2), 3);
        Due.is("the third by that one's own", x.writerIs(3, 4), Due.NONE);
        x.write(1, 300, 5);
        x.go(1);
        x.talk(4, 1);
        Due.is("not yet", x.writerIs(3, 4), Due.NONE);
        x.go(3);
        x.cut(400);
        // Of 3: 0, 2 and 6 by another one's, 4 by 5; 5 by 6, which is that one's own.
        Due.is("OFF", x.writerIs(3, 4), 7);
        Due.is("may act all the same", x.may(3), 1);
        x.go(1);
        x.write(1, 300, 5);
        x.go(1);
        x.cut(400);
        Due.is("the third one, not a later one", x.writerIs(3, 4), 7);
    }

    private static void offAtOnce() {
        fresh(25);
        for (int i = 0; i < 3; i++) {
            x.write(1, 300, 5);
            x.cut(400);
        }
        Due.is("from MINUTE 0 on", x.writerIs(3, 4), 0);
        fresh(25);
        x.back(6, 0);
        Due.is("a BACK that is ACT 0", x.writerIs(6, 3), 1);
    }

    /** In the order in which they were UNDONE, which is not that in which they were done. */
    private static void offByTime() {
        fresh(25);
        x.write(1, 200, 1);
        x.write(1, 201, 2);
        x.write(1, 202, 3);
        x.write(1, 203, 4);
        x.go(10);
        x.back(1, 3);
        x.go(10);
        x.back(1, 2);
        Due.is("two", x.writerIs(2, 4), Due.NONE);
        x.go(10);
        x.back(1, 1);
        Due.is("the third", x.writerIs(2, 4), 30);
        x.go(10);
        x.back(1, 0);
        Due.is("the third", x.writerIs(2, 4), 30);
        Due.is("four", x.writerIs(2, 2), 4);
    }

    private static void read() {
        fresh(26);
        Due.is("read(0)", x.read(0), 0);
        Due.is("read(1)", x.read(1), Due.BEYOND);
        Due.is("read(-1)", x.read(-1), Due.BEYOND);
        x.go(5);
        x.talk(0, 1);
        x.write(1, 0, 1);
        Due.is("ahead of all", x.read(4), 0);
        Due.is("NOW", x.read(5), 2);
        x.go(5);
        x.write(1, 0, 1);
        x.go(5);
        Due.is("read(9)", x.read(9), 2);
        Due.is("read(10)", x.read(10), 3);
        Due.is("read(15)", x.read(15), 3);
        Due.is("read(16)", x.read(16), Due.BEYOND);
    }

    private static void wrong() {
        fresh(27);
        x.go(5);
        x.write(1, 0, 1);
        x.go(5);
        x.write(4, 1, 2);
        x.write(4, 1, 3);
        x.go(5);
        x.back(0, 1);
        x.go(5);
        x.talk(0, 1);
        x.go(5);
        Due.is("as VERSION 1", x.wrong(1, 0, 25), 15);
        Due.is("as VERSION 4", x.wrong(4, 0, 25), 15);
        Due.is("from a MINUTE", x.wrong(1, 7, 25), 13);
        Due.is("to a MINUTE", x.wrong(1, 7, 17), 5);
        Due.is("that one not", x.wrong(1, 9, 10), 1);
        Due.is("none", x.wrong(1, 10, 15), 0);
        Due.is("no MINUTE", x.wrong(1, 7, 7), 0);
        Due.is("NOW alone", x.wrong(1, 25, 25), 0);
        Due.is("the empty one", x.wrong(0, 0, 25), 5);
        Due.is("gone within a MINUTE", x.wrong(2, 0, 25), 0);
        Due.is("VERSION 3", x.wrong(3, 0, 25), 5);
        Due.is("from above to", x.wrong(1, 8, 7), Due.BEYOND);
        Due.is("to above NOW", x.wrong(1, 0, 26), Due.BEYOND);
        Due.is("from -1", x.wrong(1, -1, 5), Due.BEYOND);
        Due.is("VERSION 6", x.wrong(6, 0, 5), Due.BEYOND);
        Due.is("VERSION -1", x.wrong(-1, 0, 5), Due.BEYOND);
    }

    public static void main(String[] args) {
        alike();
        likeness();
        likenessOfLongOnes();
        from();
        war();
        longest();
        stays();
        writerIs();
        off();
        offAtOnce();
        offByTime();
        read();
        wrong();
        Due.ends();
    }
}
