/** Promises 14 to 18: texts, living; and THE MACHINE. */
public final class TextsTest {
    private static PageWars x;

    private static void fresh(int promise) {
        Due.promise(promise);
        x = new PageWars();
    }

    private static void feed() {
        fresh(14);
        Due.is("n 0", x.feed(1, 0), Due.BEYOND);
        Due.is("n 9", x.feed(1, 9), Due.BEYOND);
        Due.is("n -1", x.feed(1, -1), Due.BEYOND);
        Due.is("n max", x.feed(1, Integer.MAX_VALUE), Due.BEYOND);
        Due.is("'1+2' of more bytes", x.feed(0x37322b31L, 3), 3);
        Due.is("'<4' with bytes ahead", x.feed(0xffffff0000343cL, 2), 5);
        Due.is("count(4)", x.count(4), 5);
        Due.is("text(0)", x.text(0), 1);
        Due.is("1+2<4", x.may(0), 1);
        for (int i = 1; i <= 7; i++) {
            Due.is("8 bytes", x.feed(-1L, 8), 8 * i);
        }
        Due.is("61 bytes", x.feed(0, 5), Due.FULL);
        Due.is("FULL changes nothing", x.count(4), 56);
        Due.is("BEYOND ahead of FULL", x.feed(0, 9), Due.BEYOND);
        Due.is("60 bytes", x.feed(0, 4), 60);
        Due.is("one more", x.feed(0, 1), Due.FULL);
        Due.is("text(0)", x.text(0), -10);
        Due.is("THE TAPE is empty", x.feed(0, 1), 1);
    }

    private static void eightBytes() {
        fresh(14);
        // The highest byte's own highest bit must not spill into others.
        x.feed(0xb121212121212131L, 8);
        Due.is("byte 1 is no joining sign", x.text(0), -11);
        Due.is("'(1-1)+!0'", x.feed(0x30212b29312d3128L, 8), 8);
        Due.is("text(0)", x.text(0), 1);
        Due.is("may(0)", x.may(0), 1);
    }

    private static void fault(int use, String text, int fault) {
        Due.is("text(" + use + ") of " + text, Due.text(x, use, text),
                fault < 0 ? 1 : -10 - fault);
        Due.is("THE TAPE is empty behind " + text, x.count(4), 0);
    }

    private static void faults() {
        fresh(15);
        fault(0, "", 0);
        fault(0, "1", -1);
        fault(0, "0000", -1);
        fault(0, "00000", 4);
        fault(0, "1+", 2);
        fault(0, "+1", 0);
        fault(0, "-1", 0);
        fault(0, "1 ", 1);
        fault(0, " 1", 0);
        fault(0, "1|2&3|4", -1);
        fault(0, "1||2", 2);
        fault(0, "1<2<3", 3);
        fault(0, "1<2&3<4|5>6", -1);
        fault(0, "1<2=3", 3);
        fault(0, "(1<2)<(3>4)", -1);
        fault(0, "(1<2<3)", 4);
        fault(0, "1<=2", 2);
        fault(0, "1<2+3*4<5", 7);
        fault(0, "()", 1);
        fault(0, "(1", 2);
        fault(0, "(1))", 3);
        fault(0, "1)", 1);
        fault(0, "!", 1);
        fault(0, "1!", 1);
        fault(0, "(1)2", 3);
        fault(0, "2(1)", 1);
        fault(0, "b1", 1);
        fault(0, "1b", 1);
        fault(0, "bb", 1);
        fault(0, "12345", 4);
        fault(0, "1+12345", 6);
        fault(0, "!!!!!1", -1);
        fault(0, "!!!!!!1", 5);
        fault(0, "(((((1)))))", -1);
        fault(0, "((((((1))))))", 5);
        fault(0, "(!(!(1)))", -1);
        fault(0, "(!(!(!1)))", 5);
        fault(0, "!(!(!(1)))", 5);
        fault(0, "!1+!1+!1+!1+!1+!1+!1", -1);
        fault(0, "(1)+(1)+(1)+(1)+(1)+(1)", -1);
        fault(0, "!!!!!1+!!!!!1", -1);
        fault(0, "(((((1+1)))))+!!!!!!1", 19);
        fault(0, "!!!!!(", 5);
        fault(0, "((((((", 5);
        fault(0, "(((((", 5);
        fault(0, "1\u00b1", 1);
        fault(0, "\u00ff", 0);
        fault(0, "1=1=", 3);
        fault(0, "1%2/3*4-5+6>7&8|9", -1);
        fault(0, "1^2", 1);
        fault(0, "1,", 1);
        fault(0, "B", 0);
    }

    private static void namesOfUses() {
        fresh(15);
        String all = "abdklmoruw";
        String[] ofUse = {"bwmla", "kwldu", "lmbor"};
        for (int use = 0; use < 8; use++) {
            String names = ofUse[Math.min(use, 2)];
            for (int i = 0; i < all.length(); i++) {
                char name = all.charAt(i);
                fault(use, "" + name, names.indexOf(name) >= 0 ? -1 : 0);
                fault(use, "1*" + name, names.indexOf(name) >= 0 ? -1 : 2);
            }
        }
    }

    private static void textStays() {
        fresh(15);
        Due.is("text(0)", Due.text(x, 0, "w=1"), 1);
        Due.tape(x, "w=2");
        Due.is("USE 8", x.text(8), Due.BEYOND);
        Due.is("USE -1", x.text(-1), Due.BEYOND);
        Due.is("THE TAPE stays", x.count(4), 3);
        Due.is("the one ahead", x.may(1) * 10 + x.may(2), 10);
        Due.is("more", x.feed('|', 1), 4);
        Due.is("a FAULT", x.text(0), -14);
        Due.is("the one ahead stays", x.may(1) * 10 + x.may(2), 10);
        Due.is("in its place", Due.text(x, 0, "w=2"), 1);
        Due.is("in its place", x.may(1) * 10 + x.may(2), 1);
        Due.is("no ERROR is told for a FAULT", x.told(1), 2);
        StringBuilder longest = new StringBuilder("w");
        while (longest.length() < 59) {
            longest.append("+0");
        }
        Due.is("59 bytes", Due.text(x, 0, longest.toString()), 1);
        Due.is("its worth", x.may(0) * 10 + x.may(2), 1);
        longest.setLength(56);
        Due.is("60 bytes", Due.text(x, 0, longest + "1234"), 1);
        longest.setLength(55);
        Due.is("60 bytes", Due.text(x, 0, longest + "+123+"), -70);
    }

    /** A TEXT of RULE for WRITER 3, worked out: whether it equals the value. */
    private static void works(String text, int value) {
        String whole = value < 0 ? "(" + text + ")=0-" + -value : "(" + text + ")=" + value;
        Due.is("text of " + whole, Due.text(x, 0, whole), 1);
        Due.is(whole, x.may(3), 1);
    }

    private static void worth() {
        fresh(15);
        works("1+2*3", 7);
        works("(1+2)*3", 9);
        works("10-3-2", 5);
        works("100/5/2", 10);
        works("100/7%4", 2);
        works("7-10", -3);
        works("(0-7)/2", -3);
        works("(0-7)%2", -1);
        works("7/(0-2)", -3);
        works("7%(0-2)", 1);
        works("7/0", 0);
        works("7%0", 0);
        works("7/0+7%0+1", 1);
        works("2|0", 1);
        works("0|0", 0);
        works("2&4", 1);
        works("2&0", 0);
        works("0|1&0", 0);
        works("1|1&0", 1);
        works("!0", 1);
        works("!7", 0);
        works("!!7", 1);
        works("!0+1", 2);
        works("!(0+1)", 0);
        works("!1*0", 0);
        works("3<4", 1);
        works("4<4", 0);
        works("5>4", 1);
        works("4>4", 0);
        works("4=4", 1);
        works("4=5", 0);
        works("1+1=2", 1);
        works("1<2&2<1", 0);
        works("1<2|2<1", 1);
        works("0009", 9);
        works("w", 3);
        works("w*w-w", 6);
        works("(9999*9999*9999)<0", 1);
        works("9999*9999*9999%1000", 9999 * 9999 * 9999 % 1000);
        works("(0-8192*8192*32)/(0-1)<0", 1);
        works("(0-8192*8192*32)%(0-1)", 0);
        works("8192*8192*32<0", 1);
        works("1-2-3*4/5%6&7|8<9", 1);
    }

    private static void ruleNames() {
        fresh(15);
        x.go(1500);
        x.write(1, 300, 5);
        x.write(1, 301, 6);
        works("w", 3);
        works("m", 60);
        works("l", 2);
        works("a", 2);
        works("b", 0);
        x.untell(0);
        x.back(3, 1);
        x.half(3, 2, 1);
        x.talk(3, 1);
        x.back(2, 0);
        works("b", 2);
        works("a", 5);
        works("l", 0);
        x.untell(0);
        x.go(1439);
        works("b", 2);
        works("m", 59);
        x.go(1);
        works("b", 0);
        works("a", 5);
    }

    private static void untell() {
        fresh(16);
        for (int use = 0; use < 8; use++) {
            Due.is("none", x.untell(use), 0);
            Due.text(x, use, use == 1 ? "0" : "1");
            Due.is("one", x.untell(use), 1);
            Due.is("no more", x.untell(use), 0);
        }
        Due.is("USE 8", x.untell(8), Due.BEYOND);
        Due.is("USE -1", x.untell(-1), Due.BEYOND);
        Due.text(x, 0, "0");
        Due.is("a RULE", x.may(0), 0);
        x.untell(0);
        Due.is("without", x.may(0), 1);
    }

    private static void machine() {
        fresh(3);
        Due.text(x, 1, "k=4|k=7");
        Due.is("a NEW one", x.write(1, 0, 5), 0);
        x.go(3);
        Due.is("a BOYISH one", x.write(4, 101, 6), 1);
        Due.is("it comes behind", x.count(1), 3);
        Due.is("KIND", x.actIs(2, 0), 2);
        Due.is("WRITER", x.actIs(2, 1), 7);
        Due.is("MINUTE", x.actIs(2, 2), 3);
        Due.is("VERSION", x.actIs(2, 3), 1);
        Due.page(x, 3, 5);
        Due.origins(x, 3, 0);
        Due.is("it UNDID it", x.actIs(1, 4), 2);
        Due.is("a TALK", x.talk(1, 9), 3);
        Due.is("to the VERSION ahead", x.actIs(4, 3), 3);
        Due.is("its own not", x.write(4, 701, 9), 5);
        Due.is("its own not", x.count(1), 6);
        Due.is("its TALK not", x.talk(7, 9), 6);
        Due.is("its TALK not", x.count(1), 7);
        x.shut(7, 1);
        x.go(1);
        Due.text(x, 0, "!(w=7)");
        Due.is("it MAY not", x.write(4, 100, 9), 8);
        Due.is("it MAY not", x.count(1), 9);
        x.untell(0);
        Due.text(x, 1, "1");
        Due.is("shut for it by that ACT", x.shut(2, 1), 9);
        Due.is("shut for it by that ACT", x.count(1), 10);
        Due.is("shut for it", x.talk(2, 1), 10);
        Due.is("shut for it", x.count(1), 11);
        x.untell(1);
        for (int i = 11; i < 59; i++) {
            x.talk(2, 1);
        }
        Due.text(x, 1, "1");
        x.go(1);
        Due.is("no room", x.talk(0, 1), 59);
        Due.is("no room", x.count(1), 60);
        Due.is("no ERROR for it", x.told(4), 0);
    }

    /** SIGN's NAMES, each by whether the MACHINE answers. */
    private static void signs(String sign, Runnable act, boolean answers) {
        int acts = x.count(1);
        Due.text(x, 1, sign);
        act.run();
        Due.is("ACTS with SIGN " + sign, x.count(1), acts + (answers ? 2 : 1));
        x.untell(1);
    }

    private static void signNames() {
        fresh(3);
        signs("k=1&w=2&l=1&d=1&u=0", () -> x.write(1, 200, 5), true);
        signs("l=1", () -> x.write(1, 200, 5), true);
        signs("l=0", () -> x.write(1, 200, 5), false);
        signs("k=1", () -> x.write(5, 200, 6), false);
        signs("k=5&d=0", () -> x.write(5, 200, 7), true);
        signs("d=0-1&k=0&l=0", () -> x.cut(300), true);
        signs("d<0", () -> x.write(1, 0, 1), false);
        signs("u", () -> x.write(1, 0, 1), false);
        signs("u", () -> x.talk(0, 1), false);
        fresh(3);
        x.write(1, 0, 1);
        x.write(1, 1, 2);
        x.write(1, 2, 3);
        x.back(0, 0);
        x.write(1, 0, 1);
        signs("u=2", () -> x.back(1, 0), false);
        Due.is("UNDID one alone", x.actIs(4, 4), 5);
        fresh(3);
        x.write(1, 0, 1);
        x.cut(0);
        x.write(1, 0, 1);
        signs("u=2&k=2&d=0-1", () -> x.back(1, 0), false);
        Due.is("the first was UNDONE first", x.actIs(0, 4), 1);
        fresh(3);
        x.write(1, 0, 1);
        x.write(1, 1, 2);
        x.write(1, 2, 3);
        x.write(5, 2, 4);
        x.write(5, 2, 3);
        Due.is("3 is UNDONE", x.actIs(3, 4), 4);
        x.write(5, 2, 9);
        x.write(5, 2, 8);
        x.write(1, 0, 7);
        signs("u=2", () -> x.back(1, 3), false);
        Due.is("5 is UNDONE", x.actIs(5, 4), 8);
        Due.is("6 is not", x.actIs(6, 4), -1);
    }

    /** One ACT that UNDID two: the VERSIONS ahead of both are ALIKE, and neither was met since. */
    private static void undidTwo() {
        fresh(3);
        x.write(1, 0, 1);
        x.write(1, 1, 2);
        x.write(1, 2, 2);
        x.cut(1);
        x.cut(1);
        Due.is("0", x.actIs(0, 4), -1);
        Due.is("1 by 4", x.actIs(1, 4), 4);
        Due.is("2 by 3", x.actIs(2, 4), 3);
        fresh(3);
        x.write(1, 0, 1);
        signs("u=1&w=0", () -> x.cut(0), true);
        Due.is("UNDONE, and that as well", x.actIs(1, 4), 2);
    }

    private static void live() {
        fresh(17);
        Due.is("n 0", x.live(0), Due.BEYOND);
        Due.is("n 61", x.live(61), Due.BEYOND);
        Due.is("n -1", x.live(-1), Due.BEYOND);
        Due.is("no WAY", x.live(60), 60);
        Due.is("no draw", x.count(7), 1);
        Due.text(x, 2, "1");
        Due.text(x, 7, "1");
        Due.is("live(2)", x.live(2), 62);
        Due.page(x, 4, 1, 6, 1, 6);
        Due.is("WRITER", x.actIs(3, 1), 5);
        Due.is("KIND", x.actIs(3, 0), 1);
        Due.is("MINUTE", x.actIs(3, 2), 61);
        int z = 1;
        for (int i = 0; i < 4; i++) {
            z = z * 1103515245 + 12345;
        }
        Due.is("four draws", x.count(7), z);
        Due.text(x, 2, "2");
        x.untell(7);
        x.live(1);
        Due.page(x, 5, 1, 6, 1);
        Due.is("KIND", x.actIs(4, 0), 0);
        Due.is("what it was of", x.actIs(4, 3), 6);
        Due.text(x, 2, "4");
        x.live(1);
        Due.page(x, 6);
        Due.is("KIND", x.actIs(5, 0), 2);
        Due.text(x, 2, "2");
        x.live(1);
        Due.is("nothing to take out", x.count(1), 6);
        for (String idle : new String[] {"0", "5", "0-1", "9999"}) {
            Due.text(x, 2, idle);
            x.live(1);
            Due.is("nothing", x.count(1), 6);
        }
        Due.is("NOW", x.count(0), 69);
        x.go(9999);
        x.go(9999);
        x.go(9872);
        Due.is("NOW", x.count(0), 29939);
        z = x.count(7);
        Due.is("live(61) is BEYOND first", x.live(61), Due.BEYOND);
        Due.is("live(60)", x.live(60), 29999);
        Due.is("live(1)", x.live(1), Due.STATE);
        x.seed(5);
        x.live(1);
        Due.is("no draw at an ERROR", x.count(7), 5);
    }

    private static void liveBack() {
        fresh(17);
        Due.text(x, 3, "3");
        x.live(2);
        Due.is("none of their own", x.count(1), 0);
        x.talk(1, 5);
        x.live(1);
        Due.is("a TALK does not do", x.count(1), 1);
        x.write(1, 0, 9);
        x.write(1, 101, 8);
        x.write(1, 2, 7);
        x.talk(1, 1);
        x.shut(1, 1);
        x.live(1);
        Due.is("to behind their own latest", x.actIs(6, 3), 3);
        Due.page(x, 7, 9, 8);
        x.live(1);
        Due.is("that is their own latest now", x.actIs(7, 3), 7);
        fresh(17);
        Due.text(x, 3, "3");
        x.write(1, 100, 9);
        x.write(1, 1, 8);
        x.live(1);
        Due.is("to behind the first ACT", x.actIs(2, 3), 1);
        Due.page(x, 3, 9);
        for (int i = 3; i < 59; i++) {
            x.talk(1, 1);
        }
        x.live(1);
        Due.is("the last ACT of all", x.actIs(59, 3), 3);
    }

    private static void liveRefused() {
        fresh(17);
        Due.text(x, 2, "1");
        Due.text(x, 3, "1");
        Due.text(x, 0, "w");
        x.live(1);
        Due.page(x, 1, 2);
        x.shut(1, 2);
        x.untell(0);
        x.live(2);
        Due.page(x, 4, 2, 2, 2);
        Due.is("shut in MINUTE 1 and 2", x.count(1), 4);
        x.live(1);
        Due.page(x, 6, 2, 2, 2, 1, 2);
        Due.is("no ERROR is told", x.told(3), 0);
        fresh(17);
        Due.text(x, 2, "1");
        x.live(25);
        Due.is("THE PAGE is full", x.count(1), 20);
        Due.text(x, 2, "4");
        x.live(41);
        Due.is("60 ACTS", x.count(1), 60);
        int z = x.count(7);
        x.live(1);
        Due.is("a draw all the same", x.count(7), z * 1103515245 + 12345);
        Due.is("no ERROR is told", x.told(4), 0);
    }

    private static void liveMachine() {
        fresh(17);
        Due.text(x, 2, "1");
        Due.text(x, 3, "l+1");
        Due.text(x, 1, "w=0&l=2");
        x.live(1);
        Due.is("0 writes, 1 takes out", x.count(1), 2);
        Due.page(x, 2);
        Due.text(x, 3, "1");
        x.live(2);
        Due.page(x, 3, 1);
        Due.page(x, 4, 1, 2);
        Due.is("no SIGN", x.actIs(4, 1), 0);
        Due.is("l 3", x.word(5, -1), 3);
        fresh(17);
        Due.text(x, 2, "1");
        Due.text(x, 3, "1");
        Due.text(x, 1, "w=0");
        x.live(1);
        Due.is("0, the MACHINE, 1", x.count(1), 3);
        Due.is("the MACHINE", x.actIs(1, 1), 7);
        Due.is("1 sees what it left", x.actIs(2, 1), 1);
        Due.page(x, 3, 2);
    }

    private static void wayNames() {
        fresh(17);
        x.write(1, 300, 9);
        x.write(1, 1, 9);
        x.write(1, 302, 9);
        x.back(3, 3);
        x.back(3, 3);
        x.go(1442);
        x.back(3, 3);
        Due.text(x, 5, "(l=3)&(m=2)&(b=1)&(o=2)");
        x.live(1);
        Due.page(x, 7, 9, 9, 9, 4);
        Due.text(x, 5, "(l=4)&(m=3)&(b=1)&(o=3)");
        x.live(1);
        Due.is("a WORD more of their own", x.count(2), 5);
        x.seed(77);
        int z = 77 * 1103515245 + 12345;
        int r = (z >>> 8) % 100;
        Due.text(x, 5, "(r=" + r + ")*2");
        x.live(1);
        Due.is("r", x.count(2), 4);
        x.seed(77);
        Due.text(x, 5, "(r=r)*(r+r=" + 2 * r + ")*2");
        x.live(1);
        Due.is("one draw for all of them", x.count(2), 3);
        Due.is("one draw", x.count(7), z);
    }

    private static void drawsThatAreBelowZero() {
        fresh(17);
        int before = 0;
        while (before * 1103515245 + 12345 >= 0) {
            before++;
        }
        x.seed(before);
        int r = ((before * 1103515245 + 12345) >>> 8) % 100;
        Due.text(x, 2, "r=" + r);
        x.live(1);
        Due.is("r of a z below 0", x.count(1), 1);
    }

    private static void seed() {
        fresh(18);
        Due.is("seed(-5)", x.seed(-5), 1);
        Due.is("seed(-1000001)", x.seed(-1000001), -5);
        Due.is("seed(0)", x.seed(0), -1000001);
        Due.is("no ERROR", x.told(1), 0);
        Due.is("count(7)", x.count(7), 0);
        Due.text(x, 2, "0");
        x.live(1);
        Due.is("the first draw", x.count(7), 12345);
    }

    public static void main(String[] args) {
        feed();
        eightBytes();
        faults();
        namesOfUses();
        textStays();
        worth();
        ruleNames();
        untell();
        machine();
        signNames();
        undidTwo();
        live();
        liveBack();
        liveRefused();
        liveMachine();
        wayNames();
        drawsThatAreBelowZero();
        seed();
        Due.ends();
    }
}
