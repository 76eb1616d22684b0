/** What the tests share: answers against those that are due, ERRORS by name, a TAPE from a text. */
final class Due {
    static final int BEYOND = -1000001;
    static final int NONE = -1000002;
    static final int STATE = -1000003;
    static final int FULL = -1000004;
    static final int KIND = -1000005;
    static final int PARTED = -1000006;

    private static int right = 0;
    private static int wrong = 0;
    private static String subject = "";
    private static Sentences sentences = null;

    private Due() {
    }

    static void promise(int number) {
        subject("promise " + number);
    }

    static void subject(String what) {
        subject = what;
    }

    /** What follows is of a sentence of the document, under a promise (0: Terms). */
    static void sentence(int promise, String words) {
        if (sentences == null) {
            sentences = new Sentences();
        }
        subject = (promise == 0 ? "Terms" : "promise " + promise) + ", '" + words + "'";
        if (!sentences.begins(promise, words)) {
            wrong++;
            System.out.println(subject + ": the document has no such sentence");
        }
    }

    static void is(String call, long got, long want) {
        if (sentences != null) {
            sentences.looks();
        }
        if (got == want) {
            right++;
        } else {
            wrong++;
            System.out.println(subject + ": " + call + " answered " + got + ", due is " + want);
        }
    }

    static void holds(String what, boolean so) {
        is(what, so ? 1 : 0, 1);
    }

    static void tape(PageWars x, String text) {
        for (int begin = 0; begin < text.length(); begin += 8) {
            int n = Math.min(8, text.length() - begin);
            long word = 0;
            for (int i = n - 1; i >= 0; i--) {
                word = word << 8 | text.charAt(begin + i) & 255;
            }
            x.feed(word, n);
        }
    }

    static int text(PageWars x, int use, String text) {
        tape(x, text);
        return x.text(use);
    }

    /** The WORDS of a VERSION, as 5.6.9 */
    static void page(PageWars x, int version, int... words) {
        is("word(" + version + ", -1)", x.word(version, -1), words.length);
        for (int i = 0; i < words.length; i++) {
            is("word(" + version + ", " + i + ")", x.word(version, i), words[i]);
        }
    }

    static void origins(PageWars x, int version, int... acts) {
        for (int i = 0; i < acts.length; i++) {
            is("origin(" + version + ", " + i + ")", x.origin(version, i), acts[i]);
        }
        is("origin(" + version + ", " + acts.length + ")", x.origin(version, acts.length), BEYOND);
    }

    /** Each sentence of the document has had an answer looked at. */
    static void sentencesEnd() {
        for (String sentence : sentences.withoutTest()) {
            wrong++;
            System.out.println("no test for " + sentence);
        }
        System.out.println(sentences.number() + " sentences");
    }

    static void ends() {
        System.out.println(right + " answers are as due, " + wrong + " are not");
        if (wrong != 0) {
            System.exit(1);
        }
    }
}
