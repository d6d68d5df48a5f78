import java.util.Random;

/** All promises at once: whole runs of calls, with errors, answered as PlainReceiver answers them. */
public final class WholeRunsTest {
    private static final int RUNS = 400;
    private static final int CALLS = 512;
    private static final int[] PAGES = {0x00, 0x00, 0x00, 0x01, 0x12, 0x99, 0x1A, 0xF0, 0x0F, 0xFF};
    /** The letters that a set has its own of, and the edges of the blocks. */
    private static final int[] EDGES = {32, 33, 34, 35, 36, 37, 63, 64, 65, 90, 91, 95, 96, 97, 122, 123, 126, 127};

    private final int run;
    private final Random random;
    private final PageReceiver x;
    private final PlainReceiver plain;
    /** How often a byte of a packet has an error: one in this many. */
    private final int errors;
    /** How often another magazine or page comes than 100, which is wanted at first: one in this many. */
    private final int others;
    private int calls;

    private WholeRunsTest(int run) {
        this.run = run;
        random = new Random(run);
        int places = random.nextInt(7) - 1;
        x = new PageReceiver(places);
        plain = new PlainReceiver(places);
        errors = 1 << (3 + random.nextInt(6));
        others = 1 << random.nextInt(4);
    }

    public static void main(String[] args) {
        int runs = args.length > 0 ? Integer.parseInt(args[0]) : RUNS;
        for (int run = 0; run < runs; run++) {
            new WholeRunsTest(run).go();
        }
        Check.finish();
    }

    private void go() {
        while (calls < CALLS - 3) {
            if (random.nextInt(4) == 0) {
                send(anyPacket());
            } else {
                ask();
            }
        }
    }

    private boolean oneIn(int n) {
        return random.nextInt(n) == 0;
    }

    private int anyOf(int[] values) {
        return values[random.nextInt(values.length)];
    }

    private void due(String call, long got, long want) {
        calls++;
        Check.due("run " + run + ", call " + calls + ": " + call, got, want);
    }

    private void due(String call, boolean got, boolean want) {
        due(call, got ? 1 : 0, want ? 1 : 0);
    }

    /** Three magazines mostly, so that pages come again and links and keys find them. */
    private int magazine() {
        if (!oneIn(others)) {
            return 1;
        }
        return oneIn(12) ? random.nextInt(8) : random.nextInt(3);
    }

    private int page() {
        return oneIn(others) ? anyOf(PAGES) : 0x00;
    }

    private int[] anyPacket() {
        switch (random.nextInt(12)) {
            case 0:
            case 1:
            case 2:
            case 3:
                return anyHeader();
            case 4:
            case 5:
                return Sender.overlays(magazine(), triplet(), triplet(), triplet(), triplet(), triplet(), triplet());
            case 6:
                return anyLinks();
            case 7:
                return Sender.row(magazine(), random.nextInt(32), letters(20));
            default:
                return Sender.row(magazine(), 1 + random.nextInt(7), letters(20));
        }
    }

    private int[] anyHeader() {
        int[] letters = letters(12);
        String text = new String(letters, 0, letters.length);
        int t = oneIn(3) ? random.nextInt(16) : 2 * random.nextInt(8);
        return Sender.header(magazine(), page(), random.nextInt(16), random.nextInt(oneIn(2) ? 8 : 16),
            t, random.nextInt(16), text);
    }

    private int[] anyLinks() {
        int[] nibbles = new int[12];
        for (int i = 0; i < nibbles.length; i += 3) {
            int page = page();
            nibbles[i] = page % 16;
            nibbles[i + 1] = page / 16;
            nibbles[i + 2] = oneIn(3) ? random.nextInt(16) : random.nextInt(2);
        }
        return Sender.links(magazine(), nibbles);
    }

    private int triplet() {
        if (oneIn(4)) {
            return Sender.triplet(38 + random.nextInt(12), oneIn(5) ? 3 + random.nextInt(3) : 4, random.nextInt(128));
        }
        int mode = oneIn(3) ? 13 + random.nextInt(4) : random.nextInt(32);
        return Sender.triplet(random.nextInt(oneIn(6) ? 64 : 21), mode, random.nextInt(128));
    }

    private int[] letters(int n) {
        int[] letters = new int[n];
        for (int i = 0; i < n; i++) {
            letters[i] = oneIn(2) ? anyMark() : oneIn(2) ? anyOf(EDGES) : 32 + random.nextInt(96);
        }
        return letters;
    }

    /** Marks that turn mosaic on more often than those that turn it off. */
    private int anyMark() {
        return oneIn(3) ? 16 + random.nextInt(8) : 8 + random.nextInt(24) - (oneIn(4) ? 8 : 0);
    }

    private void send(int[] packet) {
        for (int i = 0; i < packet.length; i++) {
            if (oneIn(errors)) {
                packet[i] ^= 1 << random.nextInt(8);
                packet[i] ^= oneIn(3) ? 1 << random.nextInt(8) : 0;
            }
        }
        feed(packet, 0, 8);
        feed(packet, 8, 16);
        feed(packet, 16, 22);
    }

    private void feed(int[] packet, int from, int to) {
        long bytes = random.nextLong();
        for (int i = from; i < to; i++) {
            bytes = bytes << 8 | packet[i];
        }
        due("feed", x.feed(bytes, to - from), plain.feed(bytes, to - from));
    }

    private void ask() {
        switch (random.nextInt(20)) {
            case 0:
                press(10 + random.nextInt(6));
                break;
            case 1:
                pressPage();
                break;
            case 2:
                askSeldom();
                break;
            case 3:
                due("shown", x.shown(), plain.shown());
                break;
            case 4:
                askViewer(random.nextInt(6) - 1);
                break;
            case 5:
                askKept(random.nextInt(6) - 1, random.nextInt(10) - 1);
                break;
            case 6:
                askCount(random.nextInt(8) - 1);
                break;
            default:
                askCell();
                break;
        }
    }

    private void askSeldom() {
        switch (random.nextInt(8)) {
            case 0:
                int n = random.nextInt(12) - 1;
                long bytes = random.nextLong();
                due("feed " + n, x.feed(bytes, n), plain.feed(bytes, n));
                due("reset", x.reset(), plain.reset());
                break;
            case 1:
                press(random.nextInt(20) - 2);
                break;
            case 2:
                press(random.nextInt(10));
                break;
            default:
                due("tick", x.tick(), plain.tick());
                break;
        }
    }

    private void press(int key) {
        due("key " + key, x.key(key), plain.key(key));
    }

    private void pressPage() {
        int page = page();
        int magazine = magazine();
        press(magazine == 0 ? 8 : magazine);
        press(page / 16 % 10);
        press(page % 16 % 10);
    }

    private void askViewer(int what) {
        due("viewer " + what, x.viewer(what), plain.viewer(what));
    }

    private void askKept(int k, int what) {
        due("kept " + k + ", " + what, x.kept(k, what), plain.kept(k, what));
    }

    private void askCount(int what) {
        due("count " + what, x.count(what), plain.count(what));
    }

    private void askCell() {
        int row = oneIn(40) ? random.nextInt(12) - 2 : random.nextInt(8);
        int column = oneIn(40) ? random.nextInt(24) - 2 : random.nextInt(20);
        String cell = row + ", " + column;
        if (oneIn(3)) {
            int u = oneIn(40) ? random.nextInt(8) - 2 : random.nextInt(4);
            int v = oneIn(40) ? random.nextInt(10) - 2 : random.nextInt(6);
            due("point " + cell + ", " + u + ", " + v, x.point(row, column, u, v), plain.point(row, column, u, v));
            return;
        }
        int what = oneIn(3) ? random.nextInt(6) - 1 : 3 * random.nextInt(2);
        due("look " + cell + ", " + what, x.look(row, column, what), plain.look(row, column, what));
    }
}
