/** The document's sentences on VOICES, SHEETS, IMAGES, what is told: points 4, 5, promises 35 on. */
final class EdgesOfVoices {
    private static final int MIN = Integer.MIN_VALUE;
    private static final int MAX = Integer.MAX_VALUE;
    private static final int DOES = 0;
    private static final int UNDOES = 1;
    private static final int STAYS = 2;
    private static final int TELLS = 3;
    private static PageWars x;

    private EdgesOfVoices() {
    }

    private static void of(int promise, String sentence) {
        Due.sentence(promise, sentence);
        x = new PageWars();
    }

    /** ACT n becomes one of a KIND by a WRITER; ahead of it are a WORD and TALKS. */
    private static int act(int kind, int n, int writer) {
        x = new PageWars();
        for (int i = 0; i < n; i++) {
            if (i == 0) {
                x.write(1, 0, 5);
            } else {
                x.talk(0, 1);
            }
        }
        switch (kind) {
            case 0:
                return x.cut(100 * writer);
            case 2:
                return x.back(writer, 0);
            case 3:
                return x.half(writer, 0, 0);
            case 6:
                return x.shut(writer, 1);
            case 7:
                return x.talk(writer, 1);
            default:
                return x.write(kind, 100 * writer, 6);
        }
    }

    private static void voice(int act, int voice, int number, int want, int... trace) {
        String call = "voice(" + act + ", " + voice + ", " + number + ")";
        Due.is(call, x.voice(act, voice, number), want);
        Due.is("BODIES of " + call, x.count(6), trace.length);
        for (int i = 0; i < trace.length; i++) {
            Due.is("body(" + i + ") of " + call, x.body(i), trace[i]);
        }
        Due.is("no more of " + call, x.body(trace.length), Due.NONE);
    }

    // ---- Terms: 4

    private static void voices() {
        of(0, "VOICES of an ACT, with a number x (ints that wrap); n is its number, w its WRITER: 0 "
                + "does, 1 undoes, 2 stays, 3 tells");
        int n = act(0, 5, 7);
        voice(n, DOES, 4, 11, 10);
        voice(n, UNDOES, 4, 22, 11, 10);
        voice(n, STAYS, 4, 17, 12, 11, 10);
        voice(n, TELLS, 4, 1, 13);
        voice(n, DOES, MAX, MIN + 6, 10);
        voice(n, DOES, MIN, MIN + 7, 10);
        voice(n, UNDOES, MAX, 12, 11, 10);
        voice(n, STAYS, MIN, 9, 12, 11, 10);
    }

    private static void bodiesOfAct() {
        of(0, "BODIES: ACT: 10 does: x + w");
        for (int w = 0; w < 8; w++) {
            int n = act(0, 1, w);
            voice(n, DOES, 100, 100 + w, 10);
            voice(n, DOES, MAX, MAX + w, 10);
        }
        of(0, "11 undoes: does(x) * 2");
        voice(act(0, 1, 3), UNDOES, 100, 206, 11, 10);
        voice(1, UNDOES, 1 << 30, MIN + 6, 11, 10);
        of(0, "12 stays: undoes(x) - n");
        voice(act(0, 1, 3), STAYS, 100, 205, 12, 11, 10);
        voice(act(0, 59, 3), STAYS, 100, 147, 12, 11, 10);
        voice(act(0, 59, 0), STAYS, 1 << 30, MAX - 58, 12, 11, 10);
        of(0, "13 tells: x by (n - 2), cut (PARTED if that is 0; that is all that voice() answers "
                + "then)");
        voice(act(7, 0, 0), TELLS, 0, 0 ^ 5, 81, 13);
        voice(act(1, 0, 0), TELLS, 7, -3, 13);
        voice(0, TELLS, -7, 3, 13);
        voice(0, TELLS, MIN, 1 << 30, 13);
        voice(act(0, 1, 0), TELLS, 7, -7, 13);
        voice(1, TELLS, MIN, MIN, 13);
        voice(1, TELLS, MAX, -MAX, 13);
        voice(act(0, 3, 0), TELLS, MIN, MIN, 13);
        voice(act(0, 4, 0), TELLS, -7, -3, 13);
        voice(4, TELLS, 1, 0, 13);
        voice(4, TELLS, 0, 0, 13);
        voice(act(0, 59, 0), TELLS, 56, 0, 13);
        voice(59, TELLS, 57, 1, 13);
        for (int number : new int[] {0, 1, -1, MIN, MAX}) {
            voice(act(0, 2, 0), TELLS, number, Due.PARTED, 13);
            Due.is("told(6)", x.told(6), 1);
        }
    }

    private static void bodiesBelow() {
        of(0, "NEW: 20 does: super.does(x) + 3");
        voice(act(1, 1, 7), DOES, 10, 20, 20, 10);
        voice(1, DOES, MAX - 7, MIN + 2, 20, 10);
        voice(1, UNDOES, 10, 40, 11, 20, 10);
        of(0, "21 stays: super.stays(x) ^ w");
        voice(act(1, 1, 7), STAYS, 10, 39 ^ 7, 21, 12, 11, 20, 10);
        voice(1, STAYS, -12, -5 ^ 7, 21, 12, 11, 20, 10);
        of(0, "BACK: 30 undoes: 0 - super.undoes(x)");
        voice(act(2, 1, 7), UNDOES, 10, -34, 30, 11, 10);
        voice(act(2, 1, 0), UNDOES, 1 << 30, MIN, 30, 11, 10);
        voice(1, STAYS, 10, -21, 12, 30, 11, 10);
        of(0, "31 tells: super.tells(x) + does(1)");
        voice(act(2, 4, 7), TELLS, 11, 5 + 8, 31, 13, 10);
        voice(act(2, 3, 7), TELLS, MAX, MIN + 7, 31, 13, 10);
        voice(act(2, 2, 7), TELLS, 11, Due.PARTED, 31, 13);
        of(0, "HALF: 40 undoes: super.undoes(x / 2)");
        voice(act(3, 1, 7), UNDOES, 11, -24, 40, 30, 11, 10);
        voice(1, UNDOES, -11, -4, 40, 30, 11, 10);
        voice(1, UNDOES, MIN, MAX - 13, 40, 30, 11, 10);
        voice(1, UNDOES, -1, -14, 40, 30, 11, 10);
        of(0, "41 stays: super.stays(x) - undoes(2)");
        voice(act(3, 1, 7), STAYS, 11, -24 - 1 + 16, 41, 12, 40, 30, 11, 10, 40, 30, 11, 10);
        voice(act(3, 4, 7), TELLS, 11, 5 + 8, 31, 13, 10);
        voice(act(3, 2, 7), TELLS, 11, Due.PARTED, 31, 13);
        of(0, "BOYISH: 50 does: super.does(x) * 3");
        voice(act(4, 1, 7), DOES, 10, 60, 50, 20, 10);
        voice(1, DOES, MAX, 27 + MAX * 3 + 3, 50, 20, 10);
        voice(1, UNDOES, 10, 120, 11, 50, 20, 10);
        voice(1, STAYS, 10, 119 ^ 7, 21, 12, 11, 50, 20, 10);
        voice(act(4, 2, 7), TELLS, 10, Due.PARTED, 13);
        of(0, "MENDING: 60 stays: super.stays(x + 1)");
        voice(act(5, 1, 7), STAYS, 10, 41 ^ 7, 60, 21, 12, 11, 20, 10);
        voice(1, STAYS, MAX, (2 * (MIN + 10) - 1) ^ 7, 60, 21, 12, 11, 20, 10);
        voice(1, DOES, 10, 20, 20, 10);
        of(0, "61 tells: stays(x) - super.tells(x)");
        voice(act(5, 1, 7), TELLS, 10, (41 ^ 7) + 10, 61, 60, 21, 12, 11, 20, 10, 13);
        voice(act(5, 4, 7), TELLS, 11, (40 ^ 7) - 5, 61, 60, 21, 12, 11, 20, 10, 13);
        voice(act(5, 2, 7), TELLS, 10, Due.PARTED, 61, 60, 21, 12, 11, 20, 10, 13);
        of(0, "SHUTTING: 70 does: 0");
        for (int number : new int[] {0, 10, MIN, MAX}) {
            voice(act(6, 1, 7), DOES, number, 0, 70);
            voice(1, UNDOES, number, 0, 11, 70);
            voice(1, STAYS, number, -1, 12, 11, 70);
        }
        voice(act(6, 2, 7), TELLS, 10, Due.PARTED, 13);
        of(0, "TALK: 80 undoes: super.undoes(x) + n");
        voice(act(7, 1, 7), UNDOES, 10, 35, 80, 11, 10);
        voice(act(7, 59, 7), UNDOES, 10, 93, 80, 11, 10);
        voice(59, STAYS, 10, 34, 12, 80, 11, 10);
        voice(59, UNDOES, MAX, 12 + 59, 80, 11, 10);
        of(0, "81 tells: super.tells(x) ^ 5");
        voice(act(7, 4, 7), TELLS, 11, 5 ^ 5, 81, 13);
        voice(4, TELLS, -11, -5 ^ 5, 81, 13);
        voice(act(7, 2, 7), TELLS, 11, Due.PARTED, 81, 13);
    }

    private static void bodiesOfKinds() {
        of(0, "does(..) is the BODY of its KIND, or of the next KIND above that has one; "
                + "super.does(..) that from the KIND above the BODY's on");
        // The first BODY of each VOICE, by KIND.
        int[][] first = {{10, 11, 12, 13}, {20, 11, 21, 13}, {10, 30, 12, 31}, {10, 40, 41, 31},
            {50, 11, 21, 13}, {20, 11, 60, 61}, {70, 11, 12, 13}, {10, 80, 12, 81}};
        for (int kind = 0; kind < 8; kind++) {
            int n = act(kind, 3, 1);
            Due.is("KIND", x.actIs(n, 0), kind);
            for (int voice = 0; voice < 4; voice++) {
                x.voice(n, voice, 1);
                Due.is("the first BODY of KIND " + kind, x.body(0), first[kind][voice]);
            }
        }
        // super.stays of a HALF's goes to ACT's, which asks for the HALF's own undoes again.
        voice(act(3, 3, 1), STAYS, 4, -6 - 3 + 4, 41, 12, 40, 30, 11, 10, 40, 30, 11, 10);
    }

    private static void trace() {
        of(0, "THE TRACE: the numbers of BODIES of the latest voice() (PARTED, too), as they began "
                + "(what stands left is worked out first), the first 30");
        voice(act(5, 3, 1), TELLS, 4, ((16 - 1) ^ 1) - 4, 61, 60, 21, 12, 11, 20, 10, 13);
        voice(0, DOES, 4, 7, 20, 10);
        Due.is("of the latest alone", x.body(2), Due.NONE);
        voice(act(2, 2, 1), TELLS, 4, Due.PARTED, 31, 13);
        Due.is("of one that is BEYOND none", x.voice(9, 0, 0), Due.BEYOND);
        Due.is("so the one ahead stays", x.count(6), 2);
        Due.is("so the one ahead stays", x.body(0), 31);
        int most = 0;
        for (int kind = 0; kind < 8; kind++) {
            int n = act(kind, 3, 1);
            for (int voice = 0; voice < 4; voice++) {
                x.voice(n, voice, 1);
                most = Math.max(most, x.count(6));
            }
        }
        // No VOICE has as many as 30.
        Due.is("the most", most, 10);
        Due.is("the 31st", x.body(30), Due.NONE);
    }

    private static void sheetsOfTerms() {
        of(0, "SHEETS 0 .. 3 are rows of 8, 16, 32 bits, at most 24 numbers, or missing (as at "
                + "first)");
        for (int sheet = 0; sheet < 4; sheet++) {
            Due.is("missing at first", x.put(sheet, 0, 1), Due.NONE);
            for (int bits : new int[] {8, 16, 32}) {
                Due.is("24 of " + bits, x.sheet(sheet, bits, 24), 1);
                Due.is("the last", x.put(sheet, 23, 1), 1);
                Due.is("no more", x.put(sheet, 24, 1), Due.BEYOND);
                Due.is("25 of " + bits, x.sheet(sheet, bits, 25), Due.BEYOND);
                Due.is("none of " + bits, x.sheet(sheet, bits, 0), 1);
                Due.is("is not missing", x.put(sheet, 0, 1), Due.BEYOND);
            }
        }
        Due.is("no SHEET 4", x.put(4, 0, 1), Due.BEYOND);
        Due.is("no SHEET -1", x.put(-1, 0, 1), Due.BEYOND);
    }

    // ---- promises 35 to 40

    private static void voiceAndBody() {
        of(35, "A VOICE of an ACT");
        for (int n : new int[] {0, 59}) {
            voice(act(7, n, 2), DOES, 5, 7, 10);
        }
        Due.is("like an ERROR, and none", x.voice(59, DOES, -1000003) * 10 + x.told(1),
                -10000010);
        of(35, "BEYOND");
        for (int k = 0; k < 4; k++) {
            int voice = k;
            Twins.refuseActs(act -> x -> x.voice(act, voice, 0));
        }
        Twins.refuseEach("VOICE", voice -> x -> x.voice(0, voice, 0), -1, 4, MIN, MAX);
        of(35, "PARTED");
        for (int kind = 0; kind < 8; kind++) {
            int n = act(kind, 2, 1);
            Due.is("KIND " + kind, x.voice(n, TELLS, 9), Due.PARTED);
            Due.is("is told", x.told(6), 1);
            for (int voice = 0; voice < 3; voice++) {
                x.voice(n, voice, 9);
                Due.is("no other VOICE", x.told(6), 1);
            }
        }
        of(36, "THE TRACE's i-th");
        x.write(1, 0, 5);
        x.voice(0, STAYS, 1);
        int[] bodies = {21, 12, 11, 20, 10};
        for (int i = 0; i < bodies.length; i++) {
            int k = i;
            Due.is("body(" + i + ")", x.body(i), bodies[i]);
            Twins.ask("it changes nothing", EdgesOfVoices::oneVoice, x -> x.body(k), bodies[k]);
        }
        of(36, "NONE: there is none such");
        for (int i : new int[] {-1, 5, 29, 30, 31, MIN, MAX}) {
            Twins.refuse("body(" + i + ")", EdgesOfVoices::oneVoice, x -> x.body(i), Due.NONE);
        }
        Twins.refuse("ahead of all", Twins::fresh, x -> x.body(0), Due.NONE);
    }

    private static void oneVoice(PageWars x) {
        x.write(1, 0, 5);
        x.voice(0, STAYS, 1);
    }

    private static void numbers(int sheet, int... numbers) {
        for (int i = 0; i < numbers.length; i++) {
            x.put(sheet, i, numbers[i]);
        }
    }

    /** What a SHEET holds, by putting it in as WORDS. */
    private static void holds(int sheet, int... numbers) {
        x.back(0, 0);
        Due.is("words(" + sheet + ")", x.words(sheet, 0), numbers.length);
        Due.page(x, x.count(1), numbers);
    }

    private static void sheet() {
        of(37, "A SHEET has n numbers, all 0, of so many bits (8, 16, 32; 0: it is missing, n doesn't "
                + "matter): 1");
        Due.is("three", x.sheet(1, 8, 3), 1);
        Due.is("all 0, which is no WORD", x.words(1, 0), 0);
        numbers(1, 5, 6, 7);
        holds(1, 5, 6, 7);
        Due.is("anew", x.sheet(1, 8, 3), 1);
        holds(1);
        numbers(1, 5, 6, 7);
        Due.is("fewer", x.sheet(1, 16, 1), 1);
        Due.is("one", x.put(1, 0, 9) + x.put(1, 1, 9), 1 + Due.BEYOND);
        holds(1, 9);
        Due.is("more", x.sheet(1, 32, 3), 1);
        x.put(1, 0, 9);
        holds(1, 9);
        for (int n : new int[] {0, 24, 25, -1, MIN, MAX}) {
            x.sheet(1, 8, 1);
            Due.is("missing, n " + n, x.sheet(1, 0, n), 1);
            Due.is("it is missing", x.put(1, 0, 1), Due.NONE);
        }
        Due.is("missing again", x.sheet(1, 0, 0), 1);
        of(37, "BEYOND");
        Twins.refuseEach("SHEET", sheet -> x -> x.sheet(sheet, 8, 1), -1, 4, MIN, MAX);
        Twins.refuseEach("missing SHEET", sheet -> x -> x.sheet(sheet, 0, 1), -1, 4, MIN, MAX);
        Twins.refuseEach("bits", bits -> x -> x.sheet(0, bits, 1), -8, -1, 1, 7, 9, 15, 17, 24, 31,
                33, 64, MIN, MAX);
        Twins.refuseEach("n", n -> x -> x.sheet(0, 8, n), 25, 26, MAX);
        Twins.refuseEach("n of a missing one", n -> x -> x.sheet(3, 32, n), 25, MAX);
        of(37, "STATE: n is below 0 (ahead of BEYOND of n)");
        for (int n : new int[] {-1, -2, MIN}) {
            for (int bits : new int[] {8, 16, 32}) {
                Twins.refuse("n " + n, Twins::busy, x -> x.sheet(0, bits, n), Due.STATE);
                Twins.refuse("n " + n, Twins::busy, x -> x.sheet(3, bits, n), Due.STATE);
            }
            Twins.refuse("no SHEET", Twins::busy, x -> x.sheet(4, 8, n), Due.BEYOND);
            Twins.refuse("no bits", Twins::busy, x -> x.sheet(0, 7, n), Due.BEYOND);
        }
        Due.is("n 0", x.sheet(0, 8, 0), 1);
    }

    private static void put() {
        of(38, "Number i of a SHEET becomes v (its lowest bits): 1");
        int[] widths = {8, 16, 32};
        for (int sheet = 0; sheet < 3; sheet++) {
            x.sheet(sheet, widths[sheet], 24);
        }
        int[] bits = {7, 8, 15, 16, 31};
        for (int sheet = 0; sheet < 3; sheet++) {
            for (int bit : bits) {
                Due.is("bit " + bit, x.put(sheet, 0, 5 | 1 << bit), 1);
                x.back(0, 0);
                Due.is("bit " + bit + " of " + widths[sheet], x.words(sheet, 0),
                        bit < widths[sheet] ? 0 : 1);
                Due.is("its WORD", x.count(2) == 1 ? x.word(x.count(1), 0) : 5, 5);
            }
        }
        x = new PageWars();
        x.sheet(0, 8, 2);
        Due.is("-256 and 6", x.put(0, 0, -256 + 6), 1);
        Due.is("the last number", x.put(0, 1, 60), 1);
        holds(0, 6, 60);
        x.put(0, 0, 7);
        holds(0, 7, 60);
        of(38, "BEYOND: no such SHEET");
        Twins.refuseEach("SHEET", sheet -> x -> x.put(sheet, 0, 1), -1, 4, MIN, MAX);
        Twins.refuseEach("SHEET", sheet -> x -> x.put(sheet, -1, 1), -1, 4, MIN, MAX);
        of(38, "NONE: it is missing");
        for (int i : new int[] {0, -1, 24, MIN, MAX}) {
            Twins.refuse("number " + i, Twins::busy, x -> x.put(3, i, 1), Due.NONE);
            Twins.refuse("number " + i, Twins::fresh, x -> x.put(0, i, 1), Due.NONE);
        }
        of(38, "BEYOND: no such number");
        Twins.refuseEach("number of 4", i -> x -> x.put(0, i, 1), -1, 4, 5, 24, MIN, MAX);
        Twins.refuseEach("number of 5", i -> x -> x.put(1, i, 1), -1, 5, MIN, MAX);
        Due.is("the last of 4", x.sheet(0, 8, 4) + x.put(0, 3, 1), 2);
        Due.is("none of none", x.sheet(0, 8, 0) + x.put(0, 0, 1), 1 + Due.BEYOND);
    }

    private static void move() {
        of(39, "n numbers of a SHEET, from number i on, come to another one (or the same), from its "
                + "number j on, as they all were: n");
        x.sheet(0, 8, 5);
        x.sheet(1, 8, 3);
        numbers(0, 1, 2, 3, 4, 5);
        numbers(1, 11, 12, 13);
        Due.is("the last one to the last place", x.move(0, 4, 1, 2, 1), 1);
        holds(1, 11, 12, 5);
        Due.is("all of it", x.move(1, 0, 0, 2, 3), 3);
        holds(0, 1, 2, 11, 12, 5);
        Due.is("the same, further on", x.move(0, 0, 0, 1, 4), 4);
        holds(0, 1, 1, 2, 11, 12);
        Due.is("the same, nearer", x.move(0, 1, 0, 0, 4), 4);
        holds(0, 1, 2, 11, 12, 12);
        Due.is("onto itself", x.move(0, 0, 0, 0, 5), 5);
        Due.is("n 0", x.move(0, 0, 1, 0, 0), 0);
        Due.is("n 0 at the ends", x.move(0, 5, 1, 3, 0), 0);
        holds(0, 1, 2, 11, 12, 12);
        x.sheet(2, 32, 24);
        x.sheet(3, 32, 24);
        for (int i = 0; i < 24; i++) {
            x.put(2, i, 1 + i);
        }
        Due.is("24", x.move(2, 0, 3, 0, 24), 24);
        x.put(2, 0, 50);
        Due.is("the last", x.move(2, 0, 3, 23, 1), 1);
        Due.is("the first", x.move(2, 23, 3, 0, 1), 1);
        x.back(0, 0);
        Due.is("20 of 24 find room", x.words(3, 0), 20);
        Due.is("the first", x.word(x.count(1), 0), 24);
        Due.is("the last", x.word(x.count(1), 19), 20);
        of(39, "BEYOND: no such SHEET");
        Twins.refuseEach("the first", sheet -> x -> x.move(sheet, 0, 0, 0, 1), -1, 4, MIN, MAX);
        Twins.refuseEach("the other", sheet -> x -> x.move(0, 0, sheet, 0, 1), -1, 4, MIN, MAX);
        Twins.refuseEach("ahead of NONE", sheet -> x -> x.move(3, 0, sheet, 0, 1), -1, 4);
        Twins.refuseEach("ahead of NONE", sheet -> x -> x.move(sheet, 0, 3, 0, 1), -1, 4);
        of(39, "NONE: one is missing");
        Twins.refuse("the first", Twins::busy, x -> x.move(3, 0, 0, 0, 1), Due.NONE);
        Twins.refuse("the other", Twins::busy, x -> x.move(0, 0, 3, 0, 1), Due.NONE);
        Twins.refuse("both", Twins::busy, x -> x.move(3, 0, 3, 0, 0), Due.NONE);
        Twins.refuse("ahead of BEYOND of n", Twins::busy, x -> x.move(3, 0, 0, 0, -1), Due.NONE);
        Twins.refuse("ahead of BEYOND of i", Twins::busy, x -> x.move(0, -1, 3, 0, 1), Due.NONE);
        of(39, "KIND: they are of unlike bits");
        Twins.refuse("8 and 16", Twins::busy, x -> x.move(0, 0, 2, 0, 1), Due.KIND);
        Twins.refuse("16 and 8", Twins::busy, x -> x.move(2, 0, 1, 0, 1), Due.KIND);
        Twins.refuse("n 0", Twins::busy, x -> x.move(2, 0, 1, 0, 0), Due.KIND);
        Twins.refuse("ahead of BEYOND of n", Twins::busy, x -> x.move(0, 0, 2, 0, -1), Due.KIND);
        Twins.refuse("ahead of BEYOND of j", Twins::busy, x -> x.move(0, 0, 2, 9, 1), Due.KIND);
        moveBeyond();
    }

    private static void moveBeyond() {
        of(39, "BEYOND: n, i, or j is below 0, or they don't stand there (n 0, too)");
        // Of busy(): SHEET 0 has 4 numbers, SHEET 1 has 5.
        Twins.refuseEach("n", n -> x -> x.move(0, 0, 1, 0, n), -1, 5, 6, MIN, MAX);
        Twins.refuseEach("n, from the longer", n -> x -> x.move(1, 0, 0, 0, n), -1, 5, 6);
        Twins.refuseEach("n, the same", n -> x -> x.move(0, 1, 0, 0, n), -1, 4, MAX);
        Twins.refuseEach("i, n 1", i -> x -> x.move(0, i, 1, 0, 1), -1, 4, 5, MIN, MAX);
        Twins.refuseEach("i, n 3", i -> x -> x.move(0, i, 1, 0, 3), -1, 2, 4, MAX - 2, MAX);
        Twins.refuseEach("j, n 1", j -> x -> x.move(0, 0, 1, j, 1), -1, 5, 6, MIN, MAX);
        Twins.refuseEach("j, n 3", j -> x -> x.move(0, 0, 1, j, 3), -1, 3, 5, MAX - 2, MAX);
        Twins.refuseEach("i, n 0", i -> x -> x.move(0, i, 1, 0, 0), -1, 5, 6, MIN, MAX);
        Twins.refuseEach("j, n 0", j -> x -> x.move(0, 0, 1, j, 0), -1, 6, 7, MIN, MAX);
        Twins.refuseEach("i and n wrap", i -> x -> x.move(0, i, 1, 0, MAX), 1, 2, MAX);
        Twins.refuseEach("j and n wrap", j -> x -> x.move(0, 0, 1, j, MAX), 1, 2, MAX);
        Twins.ask("n 0 at both ends", Twins::busy, x -> x.move(0, 4, 1, 5, 0), 0);
        Twins.ask("n 0 at both beginnings", Twins::busy, x -> x.move(0, 0, 1, 0, 0), 0);
    }

    private static void words() {
        of(40, "Numbers of a SHEET are WORDS that a WRITER puts in at the end, one by one as by "
                + "write() of NEW ones: how many, till one that it would refuse (no ERROR then)");
        x.write(1, 0, 9);
        x.sheet(0, 8, 5);
        numbers(0, 1, 60, 61, 2, 3);
        Due.is("till 61", x.words(0, 7), 2);
        Due.page(x, 3, 9, 1, 60);
        for (int act = 1; act < 3; act++) {
            Due.is("KIND", x.actIs(act, 0), 1);
            Due.is("WRITER", x.actIs(act, 1), 7);
        }
        numbers(0, 1, 0);
        Due.is("till 0", x.words(0, 7), 1);
        numbers(0, -1);
        Due.is("till one below 0", x.words(0, 7), 0);
        x.sheet(1, 32, 0);
        Due.is("of no numbers", x.words(1, 7), 0);
        x.sheet(2, 16, 24);
        for (int i = 0; i < 24; i++) {
            x.put(2, i, 7);
        }
        Due.is("till THE PAGE is full", x.words(2, 0), 16);
        Due.is("none then", x.words(2, 0), 0);
        x.back(0, 0);
        Due.is("till 20", x.words(2, 0), 20);
        x.back(0, 0);
        Due.is("till 60 ACTS", x.words(2, 0), 60 - 42);
        Due.is("60 ACTS", x.count(1), 60);
        Due.is("none then", x.words(2, 0), 0);
        for (int k = 1; k <= 6; k++) {
            Due.is("no ERROR " + k, x.told(k), 0);
        }
        x = new PageWars();
        x.sheet(2, 8, 24);
        for (int i = 0; i < 24; i++) {
            x.put(2, i, 7);
        }
        Due.text(x, 0, "a<3");
        Due.is("till RULE", x.words(2, 0), 3);
        x.shut(1, 5);
        Due.is("till RULE of who shut it", x.words(2, 1), 2);
        Due.is("shut for all others", x.words(2, 2), 0);
        x.untell(0);
        x.go(5);
        x.back(3, 0);
        Due.text(x, 1, "l=2");
        Due.is("each second one is taken back", x.words(2, 3), 24);
        Due.is("one, and 23 that were taken back", x.count(1), 7 + 1 + 46);
        Due.page(x, x.count(1), 7);
        Due.is("no ERROR", x.told(3), 0);
        of(40, "BEYOND: SHEET, WRITER");
        Twins.refuseEach("SHEET", sheet -> x -> x.words(sheet, 0), -1, 4, MIN, MAX);
        Twins.refuseWriters(writer -> x -> x.words(0, writer));
        Twins.refuseEach("ahead of NONE", writer -> x -> x.words(3, writer), -1, 8);
        of(40, "NONE");
        Twins.refuse("missing", Twins::busy, x -> x.words(3, 0), Due.NONE);
        Twins.refuse("missing, who MAY not", Twins::busy, x -> x.words(3, 6), Due.NONE);
        Twins.refuse("missing at first", Twins::fresh, x -> x.words(0, 0), Due.NONE);
        Twins.ask("who MAY not", Twins::busy, x -> x.words(0, 6), 0);
        Twins.ask("60 ACTS", Twins::fullOfActs, x -> x.words(0, 0), 0);
    }

    // ---- promises 41 to 46

    /** What a call changes behind an image() is as it was behind restore(). */
    private static void kept(String what, Twins.Call change, Twins.Call ask) {
        PageWars changed = new PageWars();
        PageWars spared = new PageWars();
        Twins.busy(changed);
        Twins.busy(spared);
        changed.image();
        change.on(changed);
        int other = ask.on(changed);
        changed.restore();
        int due = ask.on(spared);
        Due.holds(what + " had changed", other != due);
        Due.is(what + " is as it was", ask.on(changed), due);
    }

    private static int rule(PageWars x) {
        return x.may(0) * 100 + x.may(6) * 10 + x.may(7);
    }

    private static void image() {
        of(41, "All (but SHEETS, THE TRACE, what told() tells, and how often this was done) is kept "
                + "as an IMAGE, in place of one ahead: how often that was done");
        kept("NOW", x -> x.go(1), x -> x.count(0));
        kept("ACTS", x -> x.talk(0, 1), x -> x.count(1));
        kept("THE PAGE", x -> x.cut(0), x -> x.word(x.count(1), 0));
        kept("the latest ACT", x -> x.talk(0, 1), x -> x.actIs(x.count(1) - 1, 0));
        kept("the MINUTE up to which", x -> x.shut(0, 9), x -> x.count(3));
        kept("whether it is shut", x -> x.shut(0, 9), x -> x.may(1));
        kept("RULE", x -> Due.text(x, 0, "w=6"), EdgesOfVoices::rule);
        kept("RULE", x -> x.untell(0), EdgesOfVoices::rule);
        for (int k = 0; k < 8; k++) {
            int use = k;
            kept("the TEXT of USE " + use, x -> x.untell(use) == 1 ? 1 : Due.text(x, use, "0"),
                    x -> x.untell(use));
        }
        kept("THE TAPE", x -> x.feed('1', 1), x -> x.count(4));
        kept("THE TAPE", x -> x.text(6) + x.feed('1', 3), x -> x.feed('1', 1) + x.text(6));
        kept("numbers that wait", x -> x.tell(1), x -> x.count(5));
        kept("numbers that wait", x -> x.check(0), x -> x.count(5));
        kept("z", x -> x.seed(5), x -> x.count(7));
        kept("a SCORE", x -> x.score(1, 5), x -> x.actIs(1, 5));
        kept("a SCORE", x -> x.score(0, 5), x -> x.actIs(0, 5));
        kept("a WORTH", x -> x.worth(5, 0), x -> x.value(1));
        kept("what is UNDONE", x -> x.cut(0), x -> x.actIs(7, 4));
        imageOfWhoShut();
        imageOfWaiting();
        imageNot();
    }

    private static void imageOfWhoShut() {
        x = new PageWars();
        x.shut(2, 5);
        x.image();
        x.go(5);
        x.shut(3, 50);
        Due.is("shut by 3", x.may(2) * 10 + x.may(3), 1);
        x.restore();
        Due.is("shut by 2", x.may(2) * 10 + x.may(3), 10);
        Due.is("up to 5", x.count(3), 5);
    }

    private static void imageOfWaiting() {
        x = new PageWars();
        x.write(1, 0, 5);
        x.write(1, 1, 6);
        x.tell(5);
        x.tell(6);
        x.image();
        x.check(0);
        x.tell(8);
        x.tell(9);
        x.restore();
        Due.is("the numbers that wait", x.check(2), 0);
        x.tell(8);
        x.restore();
        Due.is("the IMAGE has them still", x.check(2), 0);
    }

    private static void imageNot() {
        Due.sentence(41, "All (but SHEETS, THE TRACE, what told() tells, and how often this was "
                + "done) is kept as an IMAGE, in place of one ahead: how often that was done");
        x = new PageWars();
        x.write(1, 0, 5);
        Due.is("the first", x.image(), 1);
        x.sheet(0, 8, 2);
        x.put(0, 0, 7);
        x.voice(0, DOES, 1);
        x.go(0);
        Due.is("the second", x.image(), 2);
        x.restore();
        Due.is("the third", x.image(), 3);
        x.put(0, 1, 8);
        x.go(0);
        x.voice(0, STAYS, 1);
        x.restore();
        Due.is("SHEETS", x.words(0, 0), 2);
        Due.page(x, 3, 5, 7, 8);
        Due.is("THE TRACE", x.count(6), 5);
        Due.is("what is told", x.told(1), 2);
        Due.is("how often", x.image(), 4);
        x.go(1);
        Due.is("in place of one ahead", x.restore() * 10 + x.count(1), 3);
        x.sheet(0, 0, 0);
        x.restore();
        Due.is("a SHEET that is missing stays so", x.words(0, 0), Due.NONE);
    }

    private static void restore() {
        of(42, "All is as the IMAGE has it, which stays: NOW");
        x.go(3);
        x.image();
        for (int i = 0; i < 3; i++) {
            x.go(5);
            x.write(1, 0, 5);
            Due.is("NOW", x.restore(), 3);
            Due.is("ACTS", x.count(1), 0);
        }
        Due.is("the next ACT", x.write(1, 0, 6), 0);
        Due.page(x, 1, 6);
        Due.origins(x, 1, 0);
        Due.is("is not UNDONE", x.actIs(0, 4), -1);
        Due.is("has no SCORE", x.actIs(0, 5), -1);
        // From 60 ACTS and 20 WORDS back to none, and forth again.
        for (int i = 1; i < 20; i++) {
            x.write(1, i, 6);
        }
        for (int i = 20; i < 60; i++) {
            x.score(x.write(5, i % 20, 7), 9);
        }
        x.restore();
        Due.is("no VERSION 1", x.word(1, -1), Due.BEYOND);
        x.talk(0, 1);
        Due.is("an empty PAGE", x.word(1, -1), 0);
        Due.is("no SCORE", x.actIs(0, 5), -1);
        x.worth(6, 9);
        x.worth(7, 9);
        Due.is("nothing is left of what lay there", x.value(1) + x.best() + x.writerIs(0, 0), 0);
        x.write(1, 0, 8);
        Due.is("nor behind a WORD", x.value(2) * 100 + x.likeness(1, 2), 0);
        x = new PageWars();
        for (int i = 0; i < 20; i++) {
            x.write(1, i, 1 + i);
        }
        for (int i = 20; i < 60; i++) {
            x.talk(0, 1);
        }
        x.image();
        PageWars other = new PageWars();
        Due.is("of this object alone", other.restore(), Due.NONE);
        Due.is("60 ACTS", x.restore() + x.count(1), 60);
        Due.is("the last WORD", x.word(60, 19), 20);
        Due.is("its ORIGIN", x.origin(60, 19), 19);
        Due.is("no room", x.talk(0, 1), Due.FULL);
        of(42, "NONE: there is none");
        Twins.refuse("none", Twins::fresh, x -> x.restore(), Due.NONE);
        x.image();
        Due.is("one", x.restore(), 0);
    }

    private static void tell() {
        of(43, "One more number waits: how many");
        int[] any = {0, -1, MIN, MAX, -1000001};
        for (int i = 1; i <= 24; i++) {
            Due.is("number " + i, x.tell(any[i % 5]), i);
            Due.is("they wait", x.count(5), i);
        }
        of(43, "FULL: 24 wait");
        Twins.refuse("24 wait", EdgesOfVoices::allWait, x -> x.tell(1), Due.FULL);
        allWait(x);
        x.check(0);
        Due.is("none wait", x.tell(1), 1);
        for (int i = 2; i <= 23; i++) {
            x.tell(1);
        }
        Due.is("23 wait", x.tell(1), 24);
    }

    private static void allWait(PageWars x) {
        Twins.busy(x);
        for (int i = x.count(5); i < 24; i++) {
            x.tell(i);
        }
    }

    private static int checks(int version, int... numbers) {
        for (int number : numbers) {
            x.tell(number);
        }
        int answer = x.check(version);
        Due.is("none wait then", x.count(5), 0);
        return answer;
    }

    private static void check() {
        of(44, "The numbers that wait (none do then) are the WORDS of a VERSION: 0; else 1 and the "
                + "place of the first that isn't so (one that lacks, or is too many, too)");
        x.write(1, 0, 5);
        x.write(1, 1, 6);
        x.write(1, 2, 7);
        Due.is("none, of none", checks(0), 0);
        Due.is("all", checks(3, 5, 6, 7), 0);
        Due.is("of an earlier one", checks(1, 5), 0);
        Due.is("the first", checks(3, 6, 6, 7), 1);
        Due.is("the second", checks(3, 5, 7, 6), 2);
        Due.is("the last", checks(3, 5, 6, 6), 3);
        Due.is("the first lacks", checks(3), 1);
        Due.is("the last lacks", checks(3, 5, 6), 3);
        Due.is("one too many", checks(3, 5, 6, 7, 7), 4);
        Due.is("one too many of none", checks(0, 0), 1);
        Due.is("the first of two", checks(3, 5, 1, 1, 1), 2);
        Due.is("whole numbers", checks(1, 5 + 64), 1);
        Due.is("whole numbers", checks(1, 5 - 256), 1);
        x = new PageWars();
        for (int i = 0; i < 20; i++) {
            x.write(1, i, 1 + i);
        }
        for (int n : new int[] {19, 20, 21, 24}) {
            int[] numbers = new int[n];
            for (int i = 0; i < n; i++) {
                numbers[i] = 1 + i;
            }
            Due.is(n + " of 20", checks(20, numbers), n == 20 ? 0 : Math.min(n, 20) + 1);
        }
        of(44, "BEYOND (none wait then, too)");
        for (int version : new int[] {-1, 1, 61, MIN, MAX}) {
            Due.is("VERSION " + version, checks(version, 5, 6), Due.BEYOND);
        }
        Due.is("told(1)", x.told(1), 5);
        Due.is("none wait", x.tell(1), 1);
        // Where none wait, nothing changes.
        for (int version : new int[] {-1, Twins.BUSY_ACTS + 1, 61, MIN, MAX}) {
            Twins.refuse("none wait, VERSION " + version, EdgesOfVoices::noneWait,
                    x -> x.check(version), Due.BEYOND);
        }
    }

    private static void noneWait(PageWars x) {
        Twins.busy(x);
        x.check(0);
    }

    private static void count() {
        of(45, "0 NOW, 1 ACTS, 2 WORDS of THE PAGE, 3 the MINUTE up to which it is shut (0 at first), "
                + "4 bytes of THE TAPE, 5 numbers that wait, 6 BODIES in THE TRACE, 7 z (any "
                + "number)");
        int[] first = {0, 0, 0, 0, 0, 0, 0, 1};
        int[] busy = {1503, 9, 3, 1503, 3, 4, 6, 77};
        for (int k = 0; k < 8; k++) {
            int what = k;
            Twins.ask("count(" + k + ") at first", Twins::fresh, x -> x.count(what), first[k]);
            Twins.ask("count(" + k + ")", Twins::busy, x -> x.count(what), busy[k]);
        }
        x.seed(-1000002);
        Due.is("like an ERROR", x.count(7), -1000002);
        Due.is("and none", x.told(2), 0);
        x.shut(0, 5);
        x.go(50);
        Due.is("it is told when it is over", x.count(3), 5);
        of(45, "BEYOND");
        Twins.refuseEach("what", what -> x -> x.count(what), -1, 8, MIN, MAX);
    }

    private static void told() {
        of(46, "How many acts have answered an ERROR LOW - k (k 1 .. 6); BEYOND: another k (counted, "
                + "too)");
        for (int k = 1; k <= 6; k++) {
            Due.is("told(" + k + ") at first", x.told(k), 0);
        }
        for (int i = 0; i < 3; i++) {
            x.talk(0, 1);
        }
        Twins.Call[] calls = {x -> x.go(0), x -> x.body(9), x -> x.sheet(0, 8, -1), x -> x.tell(1),
            x -> x.as(0, 1), x -> x.voice(2, TELLS, 1)};
        for (int i = 0; i < 24; i++) {
            x.tell(1);
        }
        int[] told = new int[7];
        for (int round = 1; round <= 6; round++) {
            for (int k = round; k <= 6; k++) {
                calls[k - 1].on(x);
                told[k]++;
            }
            for (int k = 1; k <= 6; k++) {
                Due.is("told(" + k + ")", x.told(k), told[k]);
            }
        }
        for (int k : new int[] {0, 7, -1, MIN, MAX, -1000001}) {
            Due.is("told(" + k + ")", x.told(k), Due.BEYOND);
            told[1]++;
            Due.is("is counted, too", x.told(1), told[1]);
        }
        Twins.refuseEach("k", k -> x -> x.told(k), 0, 7, -1, MIN, MAX);
    }

    static void all() {
        voices();
        bodiesOfAct();
        bodiesBelow();
        bodiesOfKinds();
        trace();
        sheetsOfTerms();
        voiceAndBody();
        sheet();
        put();
        move();
        words();
        image();
        restore();
        tell();
        check();
        count();
        told();
    }
}
