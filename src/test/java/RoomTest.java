import java.lang.management.ManagementFactory;

/** What calls make: nothing, but for the IMAGE's own rows, once in an object's life. */
public final class RoomTest {
    private static final int ROUNDS = 200;
    // What the machine itself may make beside, such as by a class that it loads.
    private static final long SLACK = 100_000;
    private static final long MOST_OF_ONE = 40_000;

    private RoomTest() {
    }

    private static long made() {
        return ((com.sun.management.ThreadMXBean) ManagementFactory.getThreadMXBean())
                .getCurrentThreadAllocatedBytes();
    }

    /** Every call of the face, the dear ones with much to do. */
    private static int calls(PageWars x) {
        int sum = x.restore() + x.image();
        for (int i = 0; i < 4; i++) {
            sum += x.write(1, i, 1 + i) + x.write(4, 100, 9) + x.write(5, 200, 8) + x.cut(301);
        }
        sum += x.back(4, 3) + x.half(5, 7, 2) + x.talk(6, 9) + x.shut(7, 1) + x.go(1);
        sum += x.feed(0x3c62L, 2) + x.feed(0x39L, 1) + x.text(0) + x.feed(0x343d6bL, 3) + x.text(1);
        sum += x.feed(0x352572L, 3) + x.text(2) + x.seed(7) + x.live(40) + x.untell(2);
        for (int i = 0; i < 8; i++) {
            sum += x.actIs(i, i) + x.as(i, i) + x.word(9, i) + x.origin(9, i) + x.may(i);
            sum += x.alike(i, i + 2) + x.likeness(i, i + 9) + x.from(20 + i) + x.war(i, i & 3);
            sum += x.stays(i) + x.writerIs(i, i % 5) + x.read(i) + x.wrong(i, 0, 30);
            sum += x.hand(i, 3) + x.score(i, 9 * i) + x.worth(1 + i, i) + x.value(i);
            sum += x.voice(i, i & 3, i) + x.body(i) + x.count(i) + x.told(i) + x.tell(i);
        }
        sum += x.longest() + x.line(3, 4, 0) + x.best() + x.got(0, 40) + x.check(9);
        sum += x.sheet(0, 8, 9) + x.put(0, 0, 7) + x.move(0, 0, 0, 1, 5) + x.words(0, 2);
        return sum;
    }

    public static void main(String[] args) {
        PageWars x = new PageWars();
        x.image();
        // The first round has the machine load what it needs.
        calls(x);
        long before = made();
        for (int i = 0; i < ROUNDS; i++) {
            calls(x);
        }
        long after = made();
        PageWars other = new PageWars();
        other.image();
        long one = made() - after;
        System.out.println(ROUNDS + " rounds made " + (after - before) + " bytes, one object "
                + one);
        if (after - before > SLACK || one > MOST_OF_ONE) {
            System.exit(1);
        }
    }
}
