/** Promises 35 to 46: voices, sheets, images, what is told. */
public final class VoicesTest {
    private static final int DOES = 0;
    private static final int UNDOES = 1;
    private static final int STAYS = 2;
    private static final int TELLS = 3;
    private static PageWars x;

    private static void fresh(int promise) {
        Due.promise(promise);
        x = new PageWars();
    }

    private static void voice(int act, int voice, int number, int want, int... trace) {
        String call = "voice(" + act + ", " + voice + ", " + number + ")";
        Due.promise(35);
        Due.is(call, x.voice(act, voice, number), want);
        Due.promise(36);
        Due.is("BODIES of " + call, x.count(6), trace.length);
        for (int i = 0; i < trace.length; i++) {
            Due.is("body(" + i + ") of " + call, x.body(i), trace[i]);
        }
        Due.is("no more of " + call, x.body(trace.length), Due.NONE);
    }

    private static void voices() {
        fresh(35);
        x.write(1, 300, 1);
        x.cut(300);
        x.back(3, 1);
        x.half(3, 1, 1);
        x.write(4, 300, 1);
        x.write(5, 300, 2);
        x.talk(3, 1);
        x.shut(3, 1);
        int w = 3;
        // NEW, n 0
        voice(0, DOES, 10, 16, 20, 10);
        voice(0, UNDOES, 10, 32, 11, 20, 10);
        voice(0, STAYS, 10, 32 ^ w, 21, 12, 11, 20, 10);
        voice(0, TELLS, 11, -5, 13);
        voice(0, TELLS, Integer.MIN_VALUE, 1 << 30, 13);
        // ACT, n 1
        voice(1, DOES, 10, 13, 10);
        voice(1, UNDOES, 10, 26, 11, 10);
        voice(1, STAYS, 10, 25, 12, 11, 10);
        voice(1, TELLS, 10, -10, 13);
        voice(1, TELLS, Integer.MIN_VALUE, Integer.MIN_VALUE, 13);
        voice(1, DOES, Integer.MAX_VALUE, Integer.MIN_VALUE + 2, 10);
        // BACK, n 2
        voice(2, DOES, 10, 13, 10);
        voice(2, UNDOES, 10, -26, 30, 11, 10);
        voice(2, STAYS, 10, -28, 12, 30, 11, 10);
        voice(2, TELLS, 10, Due.PARTED, 31, 13);
        // HALF, n 3
        voice(3, DOES, 10, 13, 10);
        voice(3, UNDOES, 11, -16, 40, 30, 11, 10);
        voice(3, UNDOES, -11, 4, 40, 30, 11, 10);
        voice(3, STAYS, 11, -16 - 3 + 8, 41, 12, 40, 30, 11, 10, 40, 30, 11, 10);
        voice(3, TELLS, 10, 10 + 4, 31, 13, 10);
        // BOYISH, n 4
        voice(4, DOES, 10, 48, 50, 20, 10);
        voice(4, UNDOES, 10, 96, 11, 50, 20, 10);
        voice(4, STAYS, 10, 92 ^ w, 21, 12, 11, 50, 20, 10);
        voice(4, TELLS, 11, 5, 13);
        voice(4, TELLS, -11, -5, 13);
        // MENDING, n 5
        voice(5, DOES, 10, 16, 20, 10);
        voice(5, STAYS, 10, (34 - 5) ^ w, 60, 21, 12, 11, 20, 10);
        voice(5, TELLS, 10, ((34 - 5) ^ w) - 3, 61, 60, 21, 12, 11, 20, 10, 13);
        // TALK, n 6
        voice(6, DOES, 10, 13, 10);
        voice(6, UNDOES, 10, 32, 80, 11, 10);
        voice(6, STAYS, 10, 26, 12, 80, 11, 10);
        voice(6, TELLS, 11, 2 ^ 5, 81, 13);
        voice(6, TELLS, 20, 0, 81, 13);
        // SHUTTING, n 7
        voice(7, DOES, 10, 0, 70);
        voice(7, UNDOES, 10, 0, 11, 70);
        voice(7, STAYS, 10, -7, 12, 11, 70);
        voice(7, TELLS, 10, 2, 13);
    }

    private static void partedOf(int promise, Runnable third, int... trace) {
        fresh(promise);
        x.write(1, 0, 1);
        x.write(1, 0, 1);
        third.run();
        voice(2, TELLS, 5, Due.PARTED, trace);
        Due.is("told(6)", x.told(6), 1);
    }

    private static void parted() {
        partedOf(35, () -> x.cut(0), 13);
        partedOf(35, () -> x.write(1, 0, 1), 13);
        partedOf(35, () -> x.back(0, 0), 31, 13);
        partedOf(35, () -> x.half(0, 0, 0), 31, 13);
        partedOf(35, () -> x.write(4, 0, 1), 13);
        partedOf(35, () -> x.write(5, 0, 1), 61, 60, 21, 12, 11, 20, 10, 13);
        partedOf(35, () -> x.shut(0, 1), 13);
        partedOf(35, () -> x.talk(0, 1), 81, 13);
    }

    private static void voiceErrors() {
        fresh(35);
        Due.is("no ACT", x.voice(0, 0, 0), Due.BEYOND);
        x.write(1, 0, 1);
        x.voice(0, 0, 0);
        Due.is("ACT 1", x.voice(1, 0, 0), Due.BEYOND);
        Due.is("ACT -1", x.voice(-1, 0, 0), Due.BEYOND);
        Due.is("VOICE 4", x.voice(0, 4, 0), Due.BEYOND);
        Due.is("VOICE -1", x.voice(0, -1, 0), Due.BEYOND);
        Due.promise(36);
        Due.is("THE TRACE stays", x.count(6), 2);
        Due.is("THE TRACE stays", x.body(0), 20);
        Due.is("body(-1)", x.body(-1), Due.NONE);
        Due.is("body(30)", x.body(30), Due.NONE);
        Due.is("body(max)", x.body(Integer.MAX_VALUE), Due.NONE);
        Due.promise(46);
        Due.is("a number like an ERROR is none", x.voice(0, 0, -1000004), -1000001);
        Due.is("a number like an ERROR is none", x.told(1), 5);
    }

    private static void sheet() {
        fresh(37);
        Due.is("SHEET 4", x.sheet(4, 8, 1), Due.BEYOND);
        Due.is("SHEET -1", x.sheet(-1, 8, 1), Due.BEYOND);
        for (int bits : new int[] {-8, 1, 7, 9, 24, 64}) {
            Due.is("bits " + bits, x.sheet(0, bits, 1), Due.BEYOND);
        }
        Due.is("n 25", x.sheet(0, 8, 25), Due.BEYOND);
        Due.is("n -1", x.sheet(0, 8, -1), Due.STATE);
        Due.is("n min", x.sheet(0, 8, Integer.MIN_VALUE), Due.STATE);
        Due.is("no SHEET ahead of n", x.sheet(4, 8, -1), Due.BEYOND);
        Due.is("no bits ahead of n", x.sheet(0, 9, -1), Due.BEYOND);
        Due.is("it is missing still", x.put(0, 0, 1), Due.NONE);
        Due.is("n 24", x.sheet(0, 8, 24), 1);
        Due.is("the last", x.put(0, 23, 1), 1);
        Due.is("no more", x.put(0, 24, 1), Due.BEYOND);
        Due.is("n 0", x.sheet(3, 32, 0), 1);
        Due.is("not missing", x.put(3, 0, 1), Due.BEYOND);
        Due.is("an ERROR leaves it", x.sheet(0, 16, -1), Due.STATE);
        Due.is("an ERROR leaves it", x.put(0, 23, 1), 1);
        Due.is("missing, n -1", x.sheet(0, 0, -1), 1);
        Due.is("missing", x.put(0, 0, 1), Due.NONE);
        Due.is("missing, n 99", x.sheet(0, 0, 99), 1);
        Due.is("told(3)", x.told(3), 3);
    }

    private static void sheetIsAllZero() {
        fresh(37);
        x.sheet(0, 8, 2);
        x.put(0, 0, 5);
        x.put(0, 1, 5);
        x.sheet(0, 8, 2);
        Due.is("all 0, so no WORDS", x.words(0, 0), 0);
        x.sheet(1, 8, 1);
        x.put(1, 0, 5);
        x.sheet(0, 8, 24);
        Due.is("another SHEET stays as it is", x.words(1, 0), 1);
        x.put(0, 0, 5);
        x.sheet(0, 0, 0);
        x.sheet(0, 16, 2);
        Due.is("all 0, so no WORDS", x.words(0, 0), 0);
    }

    private static void put() {
        fresh(38);
        x.sheet(0, 8, 3);
        x.sheet(1, 16, 3);
        x.sheet(2, 32, 3);
        Due.is("SHEET 4", x.put(4, 0, 0), Due.BEYOND);
        Due.is("SHEET -1", x.put(-1, 0, 0), Due.BEYOND);
        Due.is("missing, ahead of its number", x.put(3, -1, 0), Due.NONE);
        Due.is("number 3", x.put(0, 3, 0), Due.BEYOND);
        Due.is("number -1", x.put(0, -1, 0), Due.BEYOND);
        Due.is("8 bits", x.put(0, 0, 0x7fff0105), 1);
        Due.is("8 bits", x.put(0, 1, -256 + 6), 1);
        Due.is("8 bits", x.put(0, 2, 0x80), 1);
        Due.is("lowest bits", x.words(0, 0), 2);
        Due.page(x, 2, 5, 6);
        x.put(1, 0, 0x10007);
        x.put(1, 1, 0x108);
        Due.is("16 bits", x.words(1, 0), 1);
        Due.page(x, 3, 5, 6, 7);
        x.put(2, 0, 8);
        x.put(2, 1, 0x10007);
        Due.is("32 bits", x.words(2, 0), 1);
        Due.page(x, 4, 5, 6, 7, 8);
        x.put(0, 0, 0x85);
        Due.is("the eighth bit", x.words(0, 0), 0);
        x.put(1, 0, 0x8005);
        Due.is("the sixteenth bit", x.words(1, 0), 0);
        x.put(2, 0, 0x80000005);
        Due.is("the last bit", x.words(2, 0), 0);
    }

    private static void numbers(int sheet, int... numbers) {
        for (int i = 0; i < numbers.length; i++) {
            x.put(sheet, i, numbers[i]);
        }
    }

    /** What a SHEET holds, by putting it in as WORDS. */
    private static void holds(int sheet, int... numbers) {
        x.back(0, 0);
        Due.is("words(" + sheet + ")", x.words(sheet, 0), numbers.length);
        Due.page(x, x.count(1), numbers);
    }

    private static void move() {
        fresh(39);
        x.sheet(0, 8, 5);
        x.sheet(1, 8, 3);
        x.sheet(2, 16, 5);
        numbers(0, 1, 2, 3, 4, 5);
        numbers(1, 11, 12, 13);
        Due.is("to another", x.move(0, 3, 1, 1, 2), 2);
        holds(1, 11, 4, 5);
        Due.is("further on, as they all were", x.move(0, 0, 0, 1, 4), 4);
        holds(0, 1, 1, 2, 3, 4);
        Due.is("nearer, as they all were", x.move(0, 1, 0, 0, 4), 4);
        holds(0, 1, 2, 3, 4, 4);
        Due.is("n 0", x.move(0, 0, 1, 0, 0), 0);
        Due.is("n 0 at the ends", x.move(0, 5, 1, 3, 0), 0);
        Due.is("n 0 beyond the end", x.move(0, 6, 1, 3, 0), Due.BEYOND);
        Due.is("n 0 beyond the end", x.move(0, 5, 1, 4, 0), Due.BEYOND);
        Due.is("n 0, i -1", x.move(0, -1, 1, 0, 0), Due.BEYOND);
        Due.is("n -1", x.move(0, 1, 1, 1, -1), Due.BEYOND);
        Due.is("i -1", x.move(0, -1, 1, 0, 1), Due.BEYOND);
        Due.is("j -1", x.move(0, 0, 1, -1, 1), Due.BEYOND);
        Due.is("they don't stand there", x.move(0, 4, 1, 0, 2), Due.BEYOND);
        Due.is("nor there", x.move(0, 0, 1, 2, 2), Due.BEYOND);
        Due.is("more than all", x.move(0, 0, 0, 0, 6), Due.BEYOND);
        Due.is("all", x.move(0, 0, 0, 0, 5), 5);
        Due.is("numbers that would wrap", x.move(0, 1, 0, 1, Integer.MAX_VALUE), Due.BEYOND);
        Due.is("numbers that would wrap", x.move(0, Integer.MAX_VALUE, 0, 0, 1), Due.BEYOND);
        Due.is("numbers that would wrap", x.move(0, 0, 0, Integer.MAX_VALUE, 1), Due.BEYOND);
        holds(0, 1, 2, 3, 4, 4);
        holds(1, 11, 4, 5);
        Due.is("unlike bits", x.move(0, 0, 2, 0, 1), Due.KIND);
        Due.is("unlike bits ahead of n", x.move(2, 0, 0, 0, -1), Due.KIND);
        Due.is("missing", x.move(0, 0, 3, 0, 1), Due.NONE);
        Due.is("missing", x.move(3, 0, 0, 0, 1), Due.NONE);
        Due.is("missing ahead of n", x.move(3, 0, 3, 0, -1), Due.NONE);
        Due.is("SHEET 4", x.move(0, 0, 4, 0, 1), Due.BEYOND);
        Due.is("SHEET 4 ahead of missing", x.move(4, 0, 3, 0, 1), Due.BEYOND);
        Due.is("SHEET -1", x.move(-1, 0, 0, 0, 1), Due.BEYOND);
        Due.is("SHEET -1", x.move(0, 0, -1, 0, 1), Due.BEYOND);
    }

    private static void words() {
        fresh(40);
        x.sheet(0, 8, 4);
        numbers(0, 5, 60, 61, 7);
        Due.is("SHEET 4", x.words(4, 0), Due.BEYOND);
        Due.is("SHEET -1", x.words(-1, 0), Due.BEYOND);
        Due.is("WRITER 8", x.words(0, 8), Due.BEYOND);
        Due.is("WRITER -1", x.words(0, -1), Due.BEYOND);
        Due.is("missing", x.words(1, 0), Due.NONE);
        Due.is("BEYOND ahead of NONE", x.words(1, 8), Due.BEYOND);
        Due.is("till 61", x.words(0, 6), 2);
        Due.is("two ACTS", x.count(1), 2);
        Due.is("WRITER", x.actIs(1, 1), 6);
        Due.is("KIND", x.actIs(1, 0), 1);
        Due.page(x, 2, 5, 60);
        Due.is("no ERROR is told for 61", x.told(1), 5);
        x.shut(1, 1);
        Due.is("MAY not", x.words(0, 6), 0);
        Due.is("no ERROR is told for that", x.told(3), 0);
        x.go(1);
        x.sheet(2, 32, 24);
        for (int i = 0; i < 24; i++) {
            x.put(2, i, 1 + i);
        }
        Due.is("till THE PAGE is full", x.words(2, 0), 18);
        Due.is("no ERROR is told for that", x.told(4), 0);
        Due.is("the last WORD", x.word(x.count(1), 19), 18);
        Due.is("none", x.words(2, 0), 0);
        x.sheet(3, 16, 0);
        Due.is("no numbers", x.words(3, 0), 0);
    }

    private static void wordsAndTheMachine() {
        fresh(40);
        x.sheet(0, 8, 5);
        numbers(0, 1, 2, 3, 4, 5);
        Due.text(x, 1, "l=3");
        Due.is("all five", x.words(0, 0), 5);
        // The third, the fourth and the fifth are each taken back, so all come to place 2.
        Due.is("three BACKs", x.count(1), 8);
        Due.page(x, 8, 1, 2);
        Due.page(x, 7, 1, 2, 5);
        fresh(40);
        x.sheet(0, 8, 5);
        numbers(0, 1, 2, 3, 4, 5);
        Due.text(x, 0, "a<2");
        Due.is("till a RULE", x.words(0, 0), 2);
        fresh(40);
        x.sheet(0, 8, 5);
        numbers(0, 1, 2, 3, 4, 5);
        for (int i = 0; i < 57; i++) {
            x.talk(0, 1);
        }
        Due.is("till 60 ACTS", x.words(0, 0), 3);
        fresh(40);
        x.sheet(0, 8, 24);
        x.sheet(1, 8, 24);
        for (int i = 0; i < 24; i++) {
            x.put(0, i, 5);
            x.put(1, i, 6);
        }
        Due.text(x, 1, "1");
        Due.is("24, and none of the next SHEET", x.words(0, 0), 24);
        Due.is("each taken back", x.count(1), 48);
    }

    private static void image() {
        fresh(41);
        Due.promise(42);
        Due.is("no IMAGE", x.restore(), Due.NONE);
        Due.promise(41);
        x.go(3);
        x.write(4, 0, 5);
        x.score(0, 7);
        x.worth(5, 9);
        x.shut(2, 10);
        Due.text(x, 2, "1");
        Due.tape(x, "12+");
        x.seed(99);
        x.tell(5);
        x.tell(6);
        Due.is("image", x.image(), 1);
        x.seed(98);
        x.tell(7);
        x.score(0, 8);
        x.worth(5, 1);
        x.untell(2);
        Due.tape(x, "34");
        x.go(50);
        x.cut(0);
        x.shut(3, 99);
        Due.text(x, 0, "0");
        x.sheet(1, 8, 3);
        x.put(1, 0, 44);
        x.voice(0, 0, 5);
        Due.promise(42);
        Due.is("restore", x.restore(), 3);
        Due.is("ACTS", x.count(1), 2);
        Due.is("WORDS", x.count(2), 1);
        Due.is("shut", x.count(3), 13);
        Due.is("who shut it", x.may(2) * 10 + x.may(3), 10);
        Due.is("bytes", x.count(4), 3);
        Due.is("waiting", x.count(5), 2);
        Due.is("z", x.count(7), 99);
        Due.is("SCORE", x.actIs(0, 5), 7);
        Due.is("UNDONE no more", x.actIs(0, 4), -1);
        Due.is("WORTH", x.value(1), 9);
        Due.is("the WAY", x.untell(2), 1);
        Due.is("no RULE", x.untell(0), 0);
        Due.is("THE TRACE stays", x.count(6), 3);
        Due.is("THE TRACE stays", x.body(0), 50);
        Due.is("SHEETS stay", x.put(1, 2, 1), 1);
        Due.is("what is told stays", x.told(2), 1);
        x.feed('1', 1);
        Due.is("THE TAPE is as it was", x.text(2), 1);
        x.cut(200);
        Due.is("5 waits no more", x.check(1), 2);
        Due.is("restore", x.restore(), 3);
        Due.is("it stays", x.count(1), 2);
        Due.is("waiting", x.check(1), 2);
        Due.promise(41);
        x.go(1);
        Due.is("image", x.image(), 2);
        x.go(5);
        Due.is("in place of the one ahead", x.restore(), 4);
        Due.is("how often stays", x.image(), 3);
    }

    private static void imageOfMuch() {
        fresh(42);
        x.write(1, 0, 1);
        x.cut(0);
        x.image();
        for (int i = 0; i < 58; i++) {
            x.write(1, i % 20, 2 + i % 50);
            x.back(0, 1);
        }
        x.restore();
        Due.page(x, 1, 1);
        Due.page(x, 2);
        Due.is("no VERSION 3", x.word(3, -1), Due.BEYOND);
        Due.is("ACT 2", x.write(1, 0, 9), 2);
        Due.is("new ones are new", x.actIs(2, 4), -1);
        Due.is("1 is UNDONE not", x.actIs(1, 4), -1);
        Due.origins(x, 3, 2);
        x.image();
        x.write(1, 0, 9);
        x.restore();
        Due.page(x, 3, 9);
    }

    private static void imageOfActs() {
        fresh(42);
        x.write(1, 300, 5);
        x.go(2);
        x.write(4, 401, 6);
        x.go(3);
        x.back(2, 1);
        x.talk(1, 77);
        x.image();
        x.write(5, 600, 8);
        x.cut(0);
        x.restore();
        int[][] acts = {{1, 3, 0, 5, -1}, {4, 4, 2, 6, 2}, {2, 2, 5, 1, -1}, {7, 1, 5, 77, -1}};
        for (int act = 0; act < acts.length; act++) {
            for (int what = 0; what < acts[act].length; what++) {
                Due.is("actIs(" + act + ", " + what + ")", x.actIs(act, what), acts[act][what]);
            }
        }
        Due.page(x, 2, 5, 6);
        Due.page(x, 4, 5);
        Due.origins(x, 2, 0, 1);
        Due.is("no ACT 4", x.actIs(4, 0), Due.BEYOND);
    }

    /** What lay in the rows before a restore() must not be seen behind a shorter PAGE. */
    private static void nothingShinesThrough() {
        fresh(42);
        x.worth(9, 7);
        x.image();
        for (int i = 0; i < 20; i++) {
            x.write(1, i, 9);
        }
        x.restore();
        x.talk(0, 1);
        x.talk(0, 1);
        x.write(1, 0, 8);
        Due.is("value(3)", x.value(3), 0);
        Due.is("value(2)", x.value(2), 0);
        Due.is("best()", x.best(), 0);
        Due.is("writerIs(0, 0)", x.writerIs(0, 0), 1);
        Due.is("alike(0, 2)", x.alike(0, 2), 1);
        Due.is("likeness(0, 2)", x.likeness(0, 2), 100);
        x.write(1, 1, 9);
        Due.is("likeness(3, 4)", x.likeness(3, 4), 50);
        Due.is("likeness(4, 3)", x.likeness(4, 3), 50);
    }

    private static void tell() {
        fresh(43);
        for (int i = 1; i <= 24; i++) {
            Due.is("tell", x.tell(-i), i);
        }
        Due.is("24 wait", x.tell(1), Due.FULL);
        Due.is("count(5)", x.count(5), 24);
        Due.is("told(4)", x.told(4), 1);
        x.check(0);
        Due.is("none wait", x.tell(Integer.MIN_VALUE), 1);
    }

    private static void check() {
        fresh(44);
        Due.is("none wait, none are there", x.check(0), 0);
        x.write(1, 0, 5);
        x.write(1, 1, 6);
        x.write(1, 2, 7);
        Due.is("the first lacks", x.check(3), 1);
        tells(5, 6, 7);
        Due.is("so", x.check(3), 0);
        Due.is("none wait", x.count(5), 0);
        tells(5, 6);
        Due.is("the last lacks", x.check(3), 3);
        tells(5, 6, 7, 8);
        Due.is("one is too many", x.check(3), 4);
        tells(5, 7, 7);
        Due.is("another one", x.check(3), 2);
        tells(4, 6, 7);
        Due.is("another one", x.check(3), 1);
        tells(5, 6, 8, 9);
        Due.is("the first of these", x.check(3), 3);
        tells(5, 6);
        Due.is("an earlier VERSION", x.check(2), 0);
        tells(0);
        Due.is("too many for the empty one", x.check(0), 1);
        tells(5 + 256);
        Due.is("whole numbers", x.check(1), 1);
        tells(5);
        Due.is("VERSION 4", x.check(4), Due.BEYOND);
        Due.is("none wait then", x.count(5), 0);
        tells(5);
        Due.is("VERSION -1", x.check(-1), Due.BEYOND);
        Due.is("none wait then", x.count(5), 0);
    }

    private static void tells(int... numbers) {
        for (int number : numbers) {
            x.tell(number);
        }
    }

    private static void count() {
        fresh(45);
        x.go(9);
        x.write(1, 0, 5);
        x.write(1, 0, 5);
        x.talk(0, 1);
        x.shut(0, 4);
        x.feed(0, 5);
        x.tell(1);
        x.seed(-1000002);
        x.voice(3, 1, 1);
        int[] counts = {9, 4, 2, 13, 5, 1, 2, -1000002};
        for (int what = 0; what < 8; what++) {
            Due.is("count(" + what + ")", x.count(what), counts[what]);
        }
        Due.is("what 8", x.count(8), Due.BEYOND);
        Due.is("what -1", x.count(-1), Due.BEYOND);
        Due.is("z like an ERROR is none", x.told(2), 0);
        x.go(9);
        Due.is("the MINUTE is told still", x.count(3), 13);
    }

    private static void told() {
        fresh(46);
        for (int k = 1; k <= 6; k++) {
            Due.is("told(" + k + ")", x.told(k), 0);
        }
        Due.is("told(0)", x.told(0), Due.BEYOND);
        Due.is("told(7)", x.told(7), Due.BEYOND);
        Due.is("told(-1)", x.told(-1), Due.BEYOND);
        Due.is("told(1)", x.told(1), 3);
        x.go(0);
        x.longest();
        x.longest();
        x.sheet(0, 8, -1);
        x.write(1, 0, 1);
        x.as(0, 2);
        x.talk(0, 1);
        x.talk(0, 1);
        x.voice(2, 3, 1);
        for (int i = 0; i < 27; i++) {
            x.tell(1);
        }
        int[] told = {4, 2, 1, 3, 1, 1};
        for (int k = 1; k <= 6; k++) {
            Due.is("told(" + k + ")", x.told(k), told[k - 1]);
        }
    }

    public static void main(String[] args) {
        voices();
        parted();
        voiceErrors();
        sheet();
        sheetIsAllZero();
        put();
        move();
        words();
        wordsAndTheMachine();
        image();
        imageOfMuch();
        imageOfActs();
        nothingShinesThrough();
        tell();
        check();
        count();
        told();
        Due.ends();
    }
}
