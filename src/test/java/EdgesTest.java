/** The document sentence by sentence, each at its bounds; and that no sentence is left out. */
public final class EdgesTest {
    private static final int CALLS = 512;

    private EdgesTest() {
    }

    /** "An object is used for at most 512 calls": the last one answers as the first did. */
    private static void allCalls() {
        PageWars x = new PageWars();
        for (int i = 1; i < CALLS; i++) {
            x.go(i % 2);
        }
        Due.is("the last call of all", x.told(1), CALLS / 2 - 1);
        x = new PageWars();
        for (int i = 1; i < CALLS; i++) {
            x.go(1);
        }
        Due.is("the last call of all", x.go(1), CALLS);
    }

    public static void main(String[] args) {
        allCalls();
        EdgesOfPages.all();
        EdgesOfTexts.all();
        EdgesOfVersions.all();
        EdgesOfHands.all();
        EdgesOfVoices.all();
        Due.sentencesEnd();
        Due.ends();
    }
}
