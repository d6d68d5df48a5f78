import java.util.Random;

/** All promises: no call throws, whatever its arguments and whatever came before, and every answer is in its range. */
public final class AnyCallsTest {
    private static final int[] EDGES = {Integer.MIN_VALUE, -1000, -1, 22, 32, 256, 1000, Integer.MAX_VALUE};

    private final Random random;
    private final PageReceiver x;

    private AnyCallsTest(int seed) {
        random = new Random(seed);
        x = new PageReceiver(random.nextInt(8) - 2);
    }

    public static void main(String[] args) {
        for (int seed = 0; seed < 300; seed++) {
            AnyCallsTest test = new AnyCallsTest(seed);
            for (int call = 0; call < 170; call++) {
                test.feedAnything();
                test.callAnything();
            }
        }
        Check.finish();
    }

    private int any(int bound) {
        return random.nextInt(20) == 0 ? EDGES[random.nextInt(EDGES.length)] : random.nextInt(bound);
    }

    private void within(String call, int answer, int from, int to) {
        Check.due(call + " is " + answer, answer >= from && answer <= to, true);
    }

    /** Code words mostly, so that packets are seldom dropped. */
    private void feedAnything() {
        long bytes = 0;
        for (int i = 0; i < 8; i++) {
            int value = random.nextInt(4) == 0 ? random.nextInt(256) : Sender.codeWord(random.nextInt(16));
            bytes = bytes << 8 | value;
        }
        within("feed", x.feed(bytes, random.nextInt(20) == 0 ? any(12) : 8), -1, 21);
    }

    private void callAnything() {
        switch (random.nextInt(9)) {
            case 0:
                within("reset", random.nextInt(8) == 0 ? x.reset() : 0, 0, 21);
                break;
            case 1:
                x.key(any(18));
                break;
            case 2:
                x.tick();
                break;
            case 3:
                within("shown", x.shown(), -1, 2047);
                break;
            case 4:
                within("viewer", x.viewer(any(5)), -1, 2047);
                break;
            case 5:
                within("kept", x.kept(any(5), any(9)), -1, 2047);
                break;
            case 6:
                within("count", x.count(any(7)), -1, 512 * 8);
                break;
            case 7:
                within("look", x.look(any(9), any(21), any(5)), -1, 4223);
                break;
            default:
                within("point", x.point(any(9), any(21), any(5), any(7)), -1, 7);
                break;
        }
    }
}
