/** The codes, written down as the document tells them and with no thought of speed. */
final class PlainCodes {
    /** What is told by a byte, or by three; told is PageReceiver.NONE when it is lost or wrong. */
    record Told(int told, boolean mended) {
        boolean isLost() {
            return told == PageReceiver.NONE;
        }
    }

    private static final Told LOST = new Told(PageReceiver.NONE, false);

    private PlainCodes() {
    }

    static Told nibble(int value) {
        for (int d = 0; d < 16; d++) {
            if (Sender.codeWord(d) == value) {
                return new Told(d, false);
            }
            for (int bit = 1; bit < 256; bit *= 2) {
                if ((Sender.codeWord(d) ^ bit) == value) {
                    return new Told(d, true);
                }
            }
        }
        return LOST;
    }

    static Told letter(int value) {
        int ones = 0;
        for (int bit = 1; bit < 256; bit *= 2) {
            ones += value / bit % 2;
        }
        return ones % 2 == 1 ? new Told(value % 128, false) : LOST;
    }

    static Told triplet(int first, int second, int third) {
        int[] places = new int[25];
        for (int i = 0; i < 8; i++) {
            places[1 + i] = first >> i & 1;
            places[9 + i] = second >> i & 1;
            places[17 + i] = third >> i & 1;
        }
        int all = 0;
        int[] ones = new int[5];
        for (int place = 1; place <= 24; place++) {
            all += places[place];
            for (int j = 0; j < 5; j++) {
                if (place <= 23 && place / (1 << j) % 2 == 1) {
                    ones[j] += places[place];
                }
            }
        }
        int f = 0;
        for (int j = 0; j < 5; j++) {
            f += ones[j] % 2 == 0 ? 1 << j : 0;
        }
        if (all % 2 == 1) {
            return f == 0 ? new Told(bits(places), false) : LOST;
        }
        if (f >= 24) {
            return LOST;
        }
        places[f == 0 ? 24 : f] ^= 1;
        return new Told(bits(places), true);
    }

    private static int bits(int[] places) {
        int bits = 0;
        int worth = 1;
        for (int place = 1; place <= 23; place++) {
            if (Integer.bitCount(place) > 1) {
                bits += worth * places[place];
                worth *= 2;
            }
        }
        return bits;
    }
}
