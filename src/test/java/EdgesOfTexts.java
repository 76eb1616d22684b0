/** The document's sentences on TEXTS and living: point 2 of Terms, promises 14 to 18. */
final class EdgesOfTexts {
    private static final int MIN = Integer.MIN_VALUE;
    private static final int MAX = Integer.MAX_VALUE;
    private static final int FINE = -1;
    private static final int FACTOR = 1103515245;
    private static final int TERM = 12345;
    private static PageWars x;

    private EdgesOfTexts() {
    }

    private static void of(int promise, String sentence) {
        Due.sentence(promise, sentence);
        x = new PageWars();
    }

    private static void beyond(String what, Twins.Call call) {
        Twins.refuse(what, Twins::busy, call, Due.BEYOND);
    }

    /** The FAULT of a text of a USE, or FINE. */
    private static void fault(int use, String text, int fault) {
        Due.is("text(" + use + ") of '" + text + "'", Due.text(x, use, text),
                fault == FINE ? 1 : -10 - fault);
    }

    private static void fault(String text, int fault) {
        fault(0, text, fault);
    }

    /** A text as RULE of WRITER 3, which is worth so much. */
    private static void works(String text, int value) {
        String whole = "(" + text + ")=" + (value < 0 ? "0-" + -value : "" + value);
        fault(whole, FINE);
        Due.is(whole, x.may(3), 1);
        String unlike = "(" + text + ")=" + (value < 0 ? "0-" + (1 - value) : "" + (value + 1));
        fault(unlike, FINE);
        Due.is(unlike, x.may(3), 0);
    }

    // ---- Terms: 2, what a TEXT is

    private static String repeated(String first, String more, int length) {
        StringBuilder text = new StringBuilder(first);
        while (text.length() < length) {
            text.append(more);
        }
        return text.toString();
    }

    private static void or() {
        of(0, "TEXTS are read from THE TAPE (bytes, at most 60): T: A { | A }");
        fault("1", FINE);
        fault("1|2", FINE);
        fault("1|2|3", FINE);
        fault(repeated("1", "|0", 59), FINE);
        fault(repeated("10", "|0", 60), FINE);
        fault(repeated("1", "|0", 59) + "|", 60);
        fault("1||2", 2);
        fault("|1", 0);
        fault("1|", 2);
        works("0|0|3", 1);
        works("0|0|0", 0);
        Due.tape(x, repeated("10", "|0", 60));
        Due.is("60 bytes", x.count(4), 60);
        Due.is("no more", x.feed(0, 1), Due.FULL);
        Due.is("all of them", x.text(0), 1);
    }

    private static void and() {
        of(0, "A: B { & B }");
        fault("1&2", FINE);
        fault("1&2&3", FINE);
        fault(repeated("1", "&1", 59), FINE);
        fault("1&&2", 2);
        fault("&1", 0);
        fault("1&", 2);
        works("2&3&0", 0);
        works("2&3&4", 1);
        works("0&1|1", 1);
        works("1|1&0", 1);
        works("(1|1)&0", 0);
    }

    private static void comparison() {
        of(0, "B: S, or S < S, S = S, S > S");
        for (String sign : new String[] {"<", "=", ">"}) {
            fault("1" + sign + "2", FINE);
            fault("1" + sign + "2" + sign + "3", 3);
            fault("1" + sign + "2=3", 3);
            fault("1" + sign + "2+3*4<5", 7);
            fault("1" + sign + "2&3" + sign + "4", FINE);
            fault("1" + sign + "2|3" + sign + "4", FINE);
            fault("(1" + sign + "2)" + sign + "3", FINE);
            fault("(1" + sign + "2" + sign + "3)", 4);
            fault("1" + sign + "(2" + sign + "3)", FINE);
            fault("!1" + sign + "2", FINE);
            fault(sign + "1", 0);
            fault("1" + sign, 2);
            fault("1" + sign + "=", 2);
        }
        works("3<3", 0);
        works("2<3", 1);
        works("0-1<0", 1);
        works("3=3", 1);
        works("3=2", 0);
        works("3>3", 0);
        works("3>2", 1);
        works("1+2<2*2", 1);
        works("2<3&3<2", 0);
        works("2<3|3<2", 1);
    }

    private static void sum() {
        of(0, "S: P { + P, - P }");
        fault("1+2-3+4-5", FINE);
        fault(repeated("1", "-1", 59), FINE);
        fault("-1", 0);
        fault("+1", 0);
        fault("1+-1", 2);
        fault("1--1", 2);
        fault("1+", 2);
        works("9-4-3", 2);
        works("9-4+3", 8);
        works("1-9", -8);
        works("9-2*3", 3);
    }

    private static void product() {
        of(0, "P: Q { * Q, / Q, % Q }");
        fault("1*2/3%4", FINE);
        fault("*1", 0);
        fault("1*/2", 2);
        fault("1%", 2);
        works("40/5/2", 4);
        works("40/(5/2)", 20);
        works("7%4*3", 9);
        works("7*3%4", 1);
        works("2+3*4", 14);
        works("(2+3)*4", 20);
    }

    private static void innermost() {
        of(0, "Q: a NUMBER of 1 to 4 digits, a NAME, ! Q, ( T )");
        fault("7", FINE);
        fault("9999", FINE);
        fault("0000", FINE);
        fault("10000", 4);
        fault("00000", 4);
        fault("1+00000", 6);
        fault("(12345)", 5);
        fault("1234w", 4);
        fault("12w", 2);
        fault("w1", 1);
        fault("ww", 1);
        fault("w(1)", 1);
        fault("(1)(2)", 3);
        fault("(1)2", 3);
        fault("(1)w", 3);
        fault("1!", 1);
        fault("1!2", 1);
        fault("!w", FINE);
        fault("!(1|0)", FINE);
        fault("()", 1);
        fault("(1", 2);
        fault("1)", 1);
        fault("(1))", 3);
        fault("!)", 1);
        works("0010", 10);
        works("!2+1", 1);
        works("!0*5", 5);
        works("!(0*5)", 1);
        works("!!5", 1);
        works("!!!5", 0);
        works("!0=1", 1);
        works("!(0=1)", 1);
        works("!1=1", 0);
    }

    private static void names() {
        Due.sentence(0, "Q: a NUMBER of 1 to 4 digits, a NAME, ! Q, ( T )");
        String all = "abcdefghijklmnopqrstuvwxyz";
        String[] ofUse = {"bwmla", "kwldu", "lmbor"};
        for (int use = 0; use < 8; use++) {
            x = new PageWars();
            for (int i = 0; i < all.length(); i++) {
                String name = all.substring(i, i + 1);
                fault(use, name, ofUse[Math.min(use, 2)].contains(name) ? FINE : 0);
                fault(use, "1+" + name.toUpperCase(), 2);
            }
        }
    }

    private static void blanks() {
        of(0, "No blanks");
        fault(" 1", 0);
        fault("1 ", 1);
        fault("1 +2", 1);
        fault("1+ 2", 2);
        fault("1\t", 1);
        fault("1\n", 1);
        fault("1\u0000", 1);
        fault("\u0000", 0);
        fault("( 1)", 1);
        fault("12 34", 2);
    }

    private static void open() {
        of(0, "At most 5 of ! and ( are open at once");
        fault("!!!!!1", FINE);
        fault("!!!!!!1", 5);
        fault("(((((1)))))", FINE);
        fault("((((((1))))))", 5);
        for (String five : new String[] {"(((((", "!((((", "(!(!(", "!(!(!", "((!!(", "((((!"}) {
            String close = five.replace("!", "").replace("(", ")");
            fault(five + "1" + close, FINE);
            fault(five + "!1" + close, 5);
            fault(five + "(1)" + close, 5);
            fault(five + "1" + close + "+" + five + "1" + close, FINE);
        }
        fault("((((!1+!1)+!1)+!1)+!1)+!1", FINE);
        fault("((((!1+!(1))))+!(1))", 8);
        fault("!!!!1+!!!!!1", FINE);
        fault("(((((1)+(1)))))+!!!!!(1", 21);
        fault("((((1)+(1)))+!!!!!1)", 17);
        fault("((((1)+(1)))+!!!!1)", FINE);
        fault("(((((!", 5);
        fault("(((((", 5);
        fault("!!!!!", 5);
    }

    private static void arithmetic() {
        of(0, "Ints that wrap; / cut, % the rest that it leaves, both by 0 are 0; | & < = > ! are 1 "
                + "or 0, what is not 0 being true; all is worked out");
        works("(8192*8192*32)<0", 1);
        works("(8192*8192*32)=(0-8192*8192*32)", 1);
        works("(8192*8192*32-1)>0", 1);
        works("(8192*8192*32-1+1)<0", 1);
        works("8192*8192*64", 0);
        works("9999*9999*9999%1000", 9999 * 9999 * 9999 % 1000);
        works("(8192*8192*32)/(0-1)<0", 1);
        works("(8192*8192*32)%(0-1)", 0);
        works("7/2", 3);
        works("(0-7)/2", -3);
        works("7/(0-2)", -3);
        works("(0-7)/(0-2)", 3);
        works("7%3", 1);
        works("(0-7)%3", -1);
        works("7%(0-3)", 1);
        works("(0-7)%(0-3)", -1);
        works("7/0", 0);
        works("7%0", 0);
        works("0/0", 0);
        works("(0-7)/0", 0);
        works("(0-7)%0", 0);
        works("1+7/(w-w)", 1);
        works("5|0", 1);
        works("0|(0-5)", 1);
        works("(0-5)&7", 1);
        works("!(0-5)", 0);
        works("!0", 1);
        works("(3<4)+(4>3)+(3=3)", 3);
        works("1|1/0", 1);
        works("0&1%0", 0);
        works("1/0|2", 1);
    }

    private static void faults() {
        of(0, "FAULT: the place of the first byte with which no TEXT goes on; how many there are, "
                + "if it ends too early");
        fault("", 0);
        fault("x", 0);
        fault("1x", 1);
        fault("1+", 2);
        fault("1+(", 3);
        fault("1+(2", 4);
        fault("1+(2+", 5);
        fault("1x+(", 1);
        fault("1<2<", 3);
        fault("(1<2", 4);
        fault("!", 1);
        fault(repeated("1", "+1", 59) + "+", 60);
        fault(repeated("1", "+1", 59) + "1", FINE);
        fault(repeated("1", "+1", 59) + "x", 59);
        fault(repeated("1", "+1", 57) + "(1", 57);
        fault(repeated("1", "+1", 57) + "+(1", 60);
        fault("\u00b1", 0);
        fault("1\u00ab1", 1);
        fault("1\u00ff", 1);
        for (int use = 0; use < 8; use++) {
            fault(use, "", 0);
            fault(use, "1&", 2);
        }
        fault("1<2)", 3);
        fault("1#", 1);
    }

    // ---- Terms: 2, what NAMES are

    private static void ruleNames() {
        of(0, "USES: 0 RULE of a WRITER: NAMES b how many BACKs (and what is under it) that one did "
                + "in the last 1440 MINUTES (NOW and 1439 ahead of it), w the WRITER, m NOW % 1440, "
                + "l how many WORDS THE PAGE has, a how many ACTS that one did");
        works("b+m+l+a", 0);
        works("w", 3);
        x.untell(0);
        x.back(3, 0);
        works("b", 1);
        x.untell(0);
        x.go(1439);
        works("b", 1);
        works("m", 1439);
        x.untell(0);
        x.half(3, 0, 0);
        works("b", 2);
        x.untell(0);
        x.go(1);
        works("b", 1);
        works("m", 0);
        x.untell(0);
        x.go(1438);
        works("b", 1);
        x.untell(0);
        x.go(1);
        works("b", 0);
        works("m", 1439);
        works("a", 2);
        x.untell(0);
        x.back(4, 0);
        x.talk(3, 9);
        x.write(1, 300, 9);
        x.write(4, 300, 9);
        x.write(5, 300, 9);
        x.cut(300);
        x.shut(3, 1);
        works("b", 0);
        works("a", 8);
        works("l", 1);
        x.untell(0);
        for (int i = 1; i < 20; i++) {
            x.write(1, 300 + i, 9);
        }
        works("l", 20);
        works("a", 27);
    }

    private static void ruleOfEach() {
        Due.sentence(13, "Whether a WRITER MAY act now: 1, 0");
        x = new PageWars();
        for (int writer = 0; writer < 8; writer++) {
            for (int i = 0; i < writer; i++) {
                x.back(writer, 0);
            }
        }
        Due.text(x, 0, "b=w&a=w");
        for (int writer = 0; writer < 8; writer++) {
            Due.is("b, a of " + writer, x.may(writer), 1);
        }
        Due.text(x, 0, "!(w=5)");
        for (int writer = 0; writer < 8; writer++) {
            Due.is("w of " + writer, x.may(writer), writer == 5 ? 0 : 1);
        }
    }

    /** Whether the MACHINE answers an ACT that has such a SIGN; behind it there is no SIGN. */
    private static void signs(String sign, Twins.Call call, boolean so) {
        int acts = x.count(1);
        fault(1, sign, FINE);
        int act = call.on(x);
        Due.is("the ACT with SIGN " + sign, act, acts);
        Due.is("ACTS with SIGN " + sign, x.count(1), acts + (so ? 2 : 1));
        x.untell(1);
    }

    private static void signNames() {
        of(0, "1 SIGN of an ACT: k its KIND, w its WRITER, l how many WORDS are there behind it, d "
                + "how many more than ahead of it (below 0: fewer), u how many ACTS it UNDID first "
                + "(3)");
        signs("k=1&w=0&l=1&d=1&u=0", x -> x.write(1, 0, 5), true);
        signs("l=0|d=0", x -> x.write(1, 0, 5), false);
        signs("k=4&w=6&l=2&d=1&u=0", x -> x.write(4, 600, 6), true);
        signs("k=5&w=5&l=1&d=0&u=0", x -> x.write(5, 500, 7), true);
        signs("k=0&w=4&l=0&d=0-1", x -> x.cut(400), true);
        signs("d<0", x -> x.cut(0), true);
        signs("k=2&w=3&l=0&d=0-1", x -> x.back(3, 0), true);
        signs("k=3&w=2&l=1&d=0", x -> x.half(2, 0, 0), true);
        signs("k=7&w=1&l=1&d=0&u=0", x -> x.talk(1, 500), true);
        signs("k=6", x -> x.shut(0, 1), false);
        x.go(1);
        signs("k=7&u", x -> x.talk(1, 500), false);
        // To 20 WORDS and away from them at once.
        x = new PageWars();
        for (int i = 0; i < 20; i++) {
            x.write(1, i, 1 + i);
        }
        signs("l=0&d=0-20&u=1", x -> x.back(0, 0), true);
        // ACT 0 was UNDONE by 20; this one UNDID the MACHINE's.
        signs("l=0&d=0-20&u=1", x -> x.back(0, 0), true);
        x.back(7, 0);
        signs("l=20&d=20", x -> x.back(0, 20), true);
    }

    /** u counts those that were UNDONE by it first, not those undone before. */
    private static void signUndid() {
        Due.sentence(0, "1 SIGN of an ACT: k its KIND, w its WRITER, l how many WORDS are there "
                + "behind it, d how many more than ahead of it (below 0: fewer), u how many ACTS it "
                + "UNDID first (3)");
        x = new PageWars();
        x.write(1, 0, 1);
        signs("u=1", x -> x.cut(0), true);
        // 0 was UNDONE by 1; 2 put VERSION 1 back, so it UNDID 1.
        Due.is("1", x.actIs(0, 4), 1);
        Due.is("2", x.actIs(1, 4), 2);
        signs("u=0", x -> x.write(5, 0, 2), true);
        signs("u=2", x -> x.cut(0), false);
        // 2 (the MACHINE's) put VERSION 1 back, whose VERSION ahead is the empty one.
        Due.is("2 by 5", x.actIs(2, 4), 5);
        x = new PageWars();
        x.write(1, 0, 1);
        x.write(1, 1, 2);
        signs("u=0", x -> x.back(0, 2), true);
        x = new PageWars();
        x.write(1, 0, 1);
        x.write(5, 0, 2);
        x.write(5, 0, 3);
        // By putting VERSION 1 back, 1 is UNDONE; 2 is not, as VERSION 2 was ahead of it.
        signs("u=1", x -> x.back(0, 1), true);
    }

    private static void wayIs(int writer, String text, boolean so) {
        int words = x.count(2);
        fault(2 + writer, text, FINE);
        x.live(1);
        Due.is("WAY of " + writer + ": " + text, x.count(2), words + (so ? 1 : 0));
        x.untell(2 + writer);
    }

    private static void wayNames() {
        of(0, "2 to 7 WAY of WRITER 0 to 5: l, m, b as of a RULE, o how many WORDS of THE PAGE are "
                + "of ACTS of that WRITER, r a draw's rest by 100");
        for (int writer = 0; writer < 6; writer++) {
            x = new PageWars();
            wayIs(writer, "l=0&m=0&b=0&o=0&r<100", true);
            Due.is("the WRITER", x.actIs(0, 1), writer);
            Due.is("the WORD", x.actIs(0, 3), writer + 1);
            wayIs(writer, "l=1&m=1&b=0&o=1", true);
            x.write(1, 700, 9);
            x.back(writer, x.count(1));
            wayIs(writer, "l=3&b=1&o=2", true);
            x.go(1436);
            wayIs(writer, "m=1439&b=1", true);
            wayIs(writer, "m=0&b=1", true);
            wayIs(writer, "m=1&b=1", true);
            wayIs(writer, "m=2&b=0", true);
            x.write(5, 700, 9);
            wayIs(writer, "l=8&o=7", true);
            x.write(5, 701, 9);
            wayIs(writer, "l=9&o=7", true);
        }
    }

    private static void wayDraws() {
        Due.sentence(0, "2 to 7 WAY of WRITER 0 to 5: l, m, b as of a RULE, o how many WORDS of THE "
                + "PAGE are of ACTS of that WRITER, r a draw's rest by 100");
        x = new PageWars();
        for (int v : new int[] {1, 0, -1, MIN, MAX, 77, 123456789, -987654321}) {
            x.back(7, 0);
            x.seed(v);
            int z = v * FACTOR + TERM;
            int r = (z >>> 8) % 100;
            wayIs(4, "r=" + r, true);
            Due.is("z", x.count(7), z);
            x.seed(v);
            wayIs(4, "r=r&r+r=" + 2 * r + "&r*100/100=" + r, true);
            Due.is("one draw for all r of it", x.count(7), z);
        }
    }

    // ---- Terms: 2, THE MACHINE, living, DRAWS

    private static final String MACHINE = "THE MACHINE is WRITER 7: as a WRITER other than it did "
            + "an ACT (by a call, or living) of which SIGN (with a TEXT) isn't 0, it does a BACK to "
            + "the VERSION ahead of that ACT, in the same MINUTE, if it MAY, and there is room";

    private static void machine() {
        of(0, MACHINE);
        x.go(5);
        x.write(1, 0, 5);
        Due.is("without a TEXT", x.count(1), 1);
        Due.text(x, 1, "0");
        x.talk(0, 1);
        Due.is("SIGN 0", x.count(1), 2);
        Due.text(x, 1, "0-w-1");
        for (int writer = 0; writer < 7; writer++) {
            int act = x.write(5, 100 * writer, 10 + writer);
            Due.is("SIGN below 0, of WRITER " + writer, act, 2 + 2 * writer);
            int[] answer = {2, 7, 5, act, -1, -1};
            for (int what = 0; what < 6; what++) {
                Due.is("what " + what, x.actIs(act + 1, what), answer[what]);
            }
            Due.page(x, x.count(1), 5);
            Due.origins(x, x.count(1), 0);
        }
        Due.is("its own", x.write(5, 700, 9), 16);
        Due.is("is not taken back", x.count(1), 17);
        Due.is("nor is its TALK", x.talk(7, 9) + x.count(1), 17 + 18);
        Due.is("nor its BACK", x.back(7, 0) + x.count(1), 18 + 19);
        Due.is("a BACK of another one is", x.back(6, 1) + x.count(1), 19 + 21);
        x.untell(1);
        x.talk(0, 1);
        Due.is("no more", x.count(1), 22);
    }

    private static void machineByLiving() {
        Due.sentence(0, MACHINE);
        x = new PageWars();
        Due.text(x, 1, "w=2");
        Due.text(x, 3, "1");
        Due.text(x, 4, "1");
        Due.text(x, 5, "1");
        x.live(1);
        // 1 writes, 2 writes and is taken back, 3 writes.
        int[] writers = {1, 2, 7, 3};
        for (int act = 0; act < 4; act++) {
            Due.is("WRITER of " + act, x.actIs(act, 1), writers[act]);
            Due.is("MINUTE of " + act, x.actIs(act, 2), 0);
        }
        Due.page(x, 4, 2, 4);
        Due.is("four", x.count(1), 4);
        x = new PageWars();
        Due.text(x, 1, "1");
        Due.text(x, 3, "1");
        x.live(1);
        Due.is("ACT 0 is taken back, too", x.count(1), 2);
        Due.is("by the MACHINE", x.actIs(1, 1), 7);
        // Where nothing is done, nothing is taken back.
        for (String v : new String[] {"0", "2", "5"}) {
            Due.text(x, 3, v);
            x.live(1);
            Due.is("nothing is done by " + v, x.count(1), 2);
        }
        Due.text(x, 4, "3");
        x.live(1);
        Due.is("no ACT of theirs", x.count(1), 2);
        Due.text(x, 3, "1");
        Due.text(x, 0, "w=7");
        x.live(1);
        Due.is("they MAY not", x.count(1), 2);
    }

    private static void machineMayNot() {
        Due.sentence(0, MACHINE);
        x = new PageWars();
        Due.text(x, 1, "1");
        Due.text(x, 0, "!(w=7)");
        Due.is("not by RULE", x.talk(0, 1) + x.count(1), 1);
        Due.text(x, 0, "w<7|b<2");
        x.talk(0, 1);
        x.talk(0, 1);
        Due.is("twice", x.count(1), 5);
        x.talk(0, 1);
        Due.is("no more by RULE", x.count(1), 6);
        Due.text(x, 0, "w<7|l=0");
        x.write(1, 0, 5);
        Due.is("l behind that ACT", x.count(1), 7);
        x.cut(0);
        Due.is("l behind that ACT", x.count(1), 9);
        x.untell(0);
        Due.is("shut by that ACT", x.shut(3, 2) + x.count(1), 9 + 10);
        Due.is("shut still", x.talk(3, 1) + x.count(1), 10 + 11);
        x.go(2);
        Due.is("open again", x.talk(3, 1) + x.count(1), 11 + 13);
        x.shut(7, 5);
        Due.is("shut by itself", x.talk(7, 1) + x.count(1), 14 + 15);
        Due.is("no ERROR is told", x.told(3) + x.told(4), 0);
    }

    private static void machineRoom() {
        Due.sentence(0, MACHINE);
        for (int acts = 57; acts < 60; acts++) {
            x = new PageWars();
            for (int i = 0; i < acts; i++) {
                x.talk(0, 1);
            }
            Due.text(x, 1, "1");
            Due.is("ACT " + acts, x.write(1, 0, 5), acts);
            Due.is("behind it", x.count(1), Math.min(60, acts + 2));
            Due.is("WORDS", x.count(2), acts == 59 ? 1 : 0);
            Due.is("no ERROR is told", x.told(4), 0);
        }
    }

    private static final String LIVED = "A MINUTE is LIVED: by numbers each WRITER 0 to 5 whose WAY "
            + "there is draws, and it gives v: 1 a NEW one of WORD (own number and 1) at the end; 2 "
            + "an ACT that takes out the last WORD; 3 a BACK to the VERSION behind their own latest "
            + "ACT that is no TALK and no SHUTTING; 4 a BACK to VERSION 0; all else nothing; what "
            + "they MAY not do, or what isn't there, or has no room, is not done";

    private static void livedInOrder() {
        of(0, LIVED);
        for (int writer = 5; writer >= 0; writer--) {
            Due.text(x, 2 + writer, "1");
        }
        x.live(1);
        Due.page(x, 6, 1, 2, 3, 4, 5, 6);
        for (int act = 0; act < 6; act++) {
            Due.is("WRITER of " + act, x.actIs(act, 1), act);
            Due.is("KIND of " + act, x.actIs(act, 0), 1);
        }
        int z = 1;
        for (int i = 0; i < 6; i++) {
            z = z * FACTOR + TERM;
        }
        Due.is("six draws", x.count(7), z);
        // Each sees what those ahead of it did.
        x = new PageWars();
        Due.text(x, 2, "l=0");
        Due.text(x, 3, "l=1");
        Due.text(x, 7, "l=2");
        x.live(1);
        Due.page(x, 3, 1, 2, 6);
        x.live(60);
        Due.is("nothing", x.count(1), 3);
    }

    private static void livedByWay() {
        Due.sentence(0, LIVED);
        x = new PageWars();
        x.write(1, 700, 50);
        x.write(1, 701, 51);
        Due.text(x, 7, "2");
        x.live(1);
        Due.is("takes out the last", x.actIs(2, 3), 51);
        Due.is("KIND", x.actIs(2, 0), 0);
        Due.page(x, 3, 50);
        Due.text(x, 7, "4");
        x.live(1);
        Due.is("to VERSION 0", x.actIs(3, 3), 0);
        Due.is("KIND", x.actIs(3, 0), 2);
        Due.page(x, 4);
        for (String v : new String[] {"0", "5", "6", "0-1", "0-4", "9999", "8192*8192*32"}) {
            Due.text(x, 7, v);
            x.live(1);
            Due.is("nothing by " + v, x.count(1), 4);
        }
        Due.text(x, 7, "2");
        x.live(1);
        Due.is("none to take out", x.count(1), 4);
        x.write(1, 700, 52);
        x.live(1);
        Due.is("the only one", x.actIs(5, 3) * 100 + x.count(2), 5200);
        Due.text(x, 7, "4");
        x.live(1);
        Due.is("an empty one to VERSION 0", x.count(1), 7);
    }

    private static void livedBacks() {
        Due.sentence(0, LIVED);
        x = new PageWars();
        Due.text(x, 2, "3");
        x.live(1);
        Due.is("no ACT of theirs", x.count(1), 0);
        x.talk(0, 1);
        x.live(1);
        Due.is("a TALK alone", x.count(1), 1);
        x.shut(0, 1);
        x.live(1);
        Due.is("a SHUTTING alone", x.count(1), 2);
        x.write(1, 100, 9);
        x.live(1);
        Due.is("another one's", x.count(1), 3);
        Twins.Call[] calls = {x -> x.write(1, 0, 8), x -> x.write(4, 0, 7), x -> x.write(5, 0, 6),
            x -> x.cut(0), x -> x.back(0, 1), x -> x.half(0, 4, 1)};
        for (Twins.Call call : calls) {
            int act = call.on(x);
            x.write(1, 100, 30);
            x.talk(0, 1);
            x.shut(0, 1);
            x.live(1);
            Due.is("to behind ACT " + act, x.actIs(x.count(1) - 1, 3), act + 1);
            Due.is("ALIKE", x.alike(x.count(1), act + 1), 1);
        }
        x.live(1);
        Due.is("to behind their own BACK", x.actIs(x.count(1) - 1, 3), x.count(1) - 1);
        // ACT 0 is their latest, VERSION 1 behind it.
        x = new PageWars();
        x.write(1, 200, 9);
        x.write(1, 0, 9);
        Due.text(x, 4, "3");
        x.live(1);
        Due.is("to VERSION 1", x.actIs(2, 3), 1);
    }

    private static void livedNot() {
        Due.sentence(0, LIVED);
        x = new PageWars();
        for (int writer = 0; writer < 6; writer++) {
            Due.text(x, 2 + writer, "1");
        }
        Due.text(x, 0, "w=2|w=7");
        x.live(1);
        Due.page(x, 1, 3);
        x.untell(0);
        x.shut(4, 1);
        x.live(1);
        Due.page(x, 3, 3, 5);
        x.live(1);
        Due.page(x, 9, 3, 5, 1, 2, 3, 4, 5, 6);
        x.live(2);
        Due.is("THE PAGE is full", x.count(2), 20);
        Due.is("so all others not", x.count(1), 21);
        Due.text(x, 1, "1");
        x.live(1);
        Due.is("none, so none is taken back", x.count(1), 21);
        x.untell(1);
        int z = x.count(7);
        x.live(1);
        for (int i = 0; i < 6; i++) {
            z = z * FACTOR + TERM;
        }
        Due.is("they draw all the same", x.count(7), z);
        for (int i = 21; i < 58; i++) {
            x.talk(7, 1);
        }
        for (int writer = 0; writer < 6; writer++) {
            Due.text(x, 2 + writer, "2");
        }
        x.live(1);
        Due.is("60 ACTS", x.count(1), 60);
        Due.is("two were taken out", x.count(2), 18);
        Due.is("no ERROR is told", x.told(1) + x.told(3) + x.told(4), 0);
    }

    private static void then() {
        of(0, "Then NOW is 1 more");
        Due.text(x, 4, "1");
        Due.is("three MINUTES", x.live(3), 3);
        for (int act = 0; act < 3; act++) {
            Due.is("MINUTE of " + act, x.actIs(act, 2), act);
        }
        Due.is("NOW", x.count(0), 3);
        Due.text(x, 4, "m=3");
        Due.is("m ahead of that", x.live(1) + x.count(1), 4 + 4);
    }

    private static void draws() {
        of(0, "DRAWS: z is told (1 at first); each makes it z * 1103515245 + 12345 (an int), and "
                + "gives z >>> 8");
        Due.is("z at first", x.count(7), 1);
        x.live(60);
        Due.is("no WAY, no draw", x.count(7), 1);
        Due.text(x, 2, "0");
        int z = 1;
        for (int i = 0; i < 20; i++) {
            z = z * FACTOR + TERM;
            x.live(1);
            Due.is("draw " + i, x.count(7), z);
        }
        x.untell(2);
        x.live(60);
        Due.is("no WAY, no draw", x.count(7), z);
        x.seed(0);
        Due.text(x, 2, "r=(9999+2346)/256%100");
        x.live(1);
        Due.is("r 48", x.count(1), 1);
        Due.is("z", x.count(7), 12345);
    }

    // ---- promises 14 to 18

    private static void feed() {
        of(14, "The n lowest bytes (1 .. 8) of a word, the lowest first, come to THE TAPE: how many "
                + "there are");
        Due.is("one of '1234'", x.feed(0x34333231L, 1), 1);
        Due.is("'1'", x.text(0), 1);
        long word = 0x30212b29312d3128L;
        Due.is("eight: '(1-1)+!0'", x.feed(word, 8), 8);
        Due.is("all of them", x.text(0), 1);
        Due.is("worth 1", x.may(0), 1);
        Due.is("seven: '(1-1)+!'", x.feed(word, 7), 7);
        Due.is("it ends too early", x.text(0), -17);
        Due.is("two words", x.feed(0x2b31L, 2) + x.feed(0x32L, 1), 2 + 3);
        Due.is("'1+2'", x.text(0), 1);
        Due.is("the highest bit", x.feed(0xb131313131313131L, 8), 8);
        Due.is("is a byte's own", x.text(0), -14);
        Due.is("1111 then", x.feed(0xb131313131313131L, 4), 4);
        Due.is("is a TEXT", x.text(0), 1);
        Due.is("255", x.feed(-1L, 8), 8);
        Due.is("is no sign", x.text(0), -10);
        for (int n = 1; n <= 8; n++) {
            Due.is("n " + n, x.feed(0, n), n * (n + 1) / 2);
        }
        of(14, "BEYOND");
        for (int n : new int[] {0, -1, 9, MIN, MAX}) {
            beyond("n " + n, x -> x.feed(0x31L, n));
            Twins.refuse("n " + n + ", FULL", EdgesOfTexts::tapeOf60, x -> x.feed(0x31L, n),
                    Due.BEYOND);
        }
        of(14, "FULL");
        for (int n = 1; n <= 8; n++) {
            int bytes = n;
            Twins.refuse("60 and " + n, EdgesOfTexts::tapeOf60, x -> x.feed(0x31L, bytes),
                    Due.FULL);
            x = new PageWars();
            Due.tape(x, repeated("1", "+", 61 - n));
            Due.is("61 - n", x.count(4), 61 - n);
            Due.is("one too many", x.feed(0, n), Due.FULL);
            Due.is("none of them comes", x.count(4), 61 - n);
            Due.is("just so", n == 1 ? 60 : x.feed(0, n - 1), 60);
        }
    }

    private static void tapeOf60(PageWars x) {
        Twins.busy(x);
        for (int i = x.count(4); i < 60; i++) {
            x.feed('1', 1);
        }
    }

    private static void text() {
        of(15, "THE TAPE, which is empty then, is the TEXT of a USE (0 to 7), in place of one "
                + "ahead: 1");
        for (int use = 0; use < 8; use++) {
            Due.is("USE " + use, Due.text(x, use, "0"), 1);
            Due.is("THE TAPE is empty", x.count(4), 0);
            Due.is("none twice", x.text(use), -10);
        }
        Due.is("the first one", x.may(0), 0);
        Due.is("another", Due.text(x, 0, "w"), 1);
        Due.is("in its place", x.may(0) * 10 + x.may(1), 1);
        Due.is("a shorter one behind a longer", Due.text(x, 0, "w*w*w*w*w*w*w*w*w"), 1);
        Due.is("a shorter one behind a longer", Due.text(x, 0, "1"), 1);
        Due.is("in its place", x.may(0), 1);
        Due.is("USES are apart", x.live(1) + x.count(1), 1);
        Due.is("the last USE", Due.text(x, 7, "1"), 1);
        x.live(1);
        Due.is("is WRITER 5's", x.actIs(0, 1), 5);
        of(15, "BEYOND (THE TAPE stays)");
        for (int use : new int[] {-1, 8, MIN, MAX}) {
            beyond("USE " + use, x -> x.text(use));
        }
        Due.tape(x, "0");
        Due.is("USE 8", x.text(8), Due.BEYOND);
        Due.is("THE TAPE", x.count(4), 1);
        Due.is("is a TEXT then", x.text(0), 1);
        Due.is("as it was", x.may(0), 0);
        of(15, "-10 less the FAULT (no ERROR; the one ahead stays; THE TAPE is empty, too)");
        Due.text(x, 0, "w=1");
        Due.text(x, 2, "1");
        Due.is("FAULT 0", Due.text(x, 0, "*"), -10);
        Due.is("FAULT 2", Due.text(x, 0, "1+"), -12);
        Due.is("THE TAPE", x.count(4), 0);
        Due.is("the one ahead", x.may(0) * 10 + x.may(1), 1);
        Due.is("FAULT 60", Due.text(x, 0, repeated("1", "+1", 59) + "+"), -70);
        Due.is("FAULT 59", Due.text(x, 0, repeated("1", "+1", 59) + "x"), -69);
        Due.is("THE TAPE", x.count(4), 0);
        Due.is("the one ahead", x.may(0) * 10 + x.may(1), 1);
        Due.is("FAULT of a WAY", Due.text(x, 2, "k"), -10);
        x.untell(0);
        x.live(1);
        Due.is("the WAY ahead", x.count(1), 1);
        Due.is("FAULT where there was none", Due.text(x, 1, "("), -11);
        Due.is("there is none", x.untell(1), 0);
        for (int k = 1; k <= 6; k++) {
            Due.is("no ERROR " + k, x.told(k), 0);
        }
    }

    private static void untell() {
        of(16, "There is no TEXT of a USE any more: 1 if there was, else 0");
        for (int use = 0; use < 8; use++) {
            Due.is("none", x.untell(use), 0);
            Due.text(x, use, "0");
        }
        for (int use = 0; use < 8; use++) {
            Due.is("one", x.untell(use), 1);
            Due.is("any more", x.untell(use), 0);
        }
        Due.is("so all MAY", x.may(3), 1);
        Due.tape(x, "1+");
        x.untell(0);
        Due.is("THE TAPE stays", x.count(4), 2);
        of(16, "BEYOND");
        for (int use : new int[] {-1, 8, MIN, MAX}) {
            beyond("USE " + use, x -> x.untell(use));
        }
    }

    private static void live() {
        of(17, "n (1 to 60) MINUTES are LIVED: NOW");
        Due.is("the least", x.live(1), 1);
        Due.is("the most", x.live(60), 61);
        Due.text(x, 2, "4");
        Due.is("with a WAY", x.live(59), 120);
        Due.is("an ACT in each", x.count(1), 59);
        Due.is("the last of them", x.actIs(58, 2), 119);
        of(17, "BEYOND");
        for (int n : new int[] {0, -1, 61, MIN, MAX}) {
            beyond("n " + n, x -> x.live(n));
            Twins.refuse("n " + n + ", late", Twins::late, x -> x.live(n), Due.BEYOND);
        }
        of(17, "STATE: it would be above 29999");
        for (int n : new int[] {2, 3, 60}) {
            Twins.refuse("n " + n + " at 29998", Twins::late, x -> x.live(n), Due.STATE);
        }
        Twins.late(x);
        Due.is("just so", x.live(1), 29999);
        Due.is("one more", x.live(1), Due.STATE);
        x = new PageWars();
        for (int i = 0; i < 3; i++) {
            x.go(9980);
        }
        Due.is("59 are left", x.live(60), Due.STATE);
        Due.is("59 are left", x.live(59), 29999);
    }

    private static void seed() {
        of(18, "z becomes v: what it was (any number)");
        int was = 1;
        for (int v : new int[] {0, -1, MIN, MAX, -1000001, -1000006, 77}) {
            Due.is("seed(" + v + ")", x.seed(v), was);
            Due.is("z", x.count(7), v);
            was = v;
        }
        for (int k = 1; k <= 6; k++) {
            Due.is("no ERROR " + k, x.told(k), 0);
        }
        Due.text(x, 2, "0");
        x.live(1);
        Due.is("drawn from there", x.seed(5), 77 * FACTOR + TERM);
    }

    static void all() {
        or();
        and();
        comparison();
        sum();
        product();
        innermost();
        names();
        blanks();
        open();
        arithmetic();
        faults();
        ruleNames();
        ruleOfEach();
        signNames();
        signUndid();
        wayNames();
        wayDraws();
        machine();
        machineByLiving();
        machineMayNot();
        machineRoom();
        livedInOrder();
        livedByWay();
        livedBacks();
        livedNot();
        then();
        draws();
        feed();
        text();
        untell();
        live();
        seed();
    }
}
