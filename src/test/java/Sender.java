/** Makes packets from the words of the document and feeds them. */
final class Sender {
    private static final int[] DATA_PLACES = {3, 5, 6, 7, 9, 10, 11, 12, 13, 14, 15, 17, 18, 19, 20, 21, 22, 23};

    private Sender() {
    }

    static int codeWord(int d) {
        int d0 = d & 1;
        int d1 = d >> 1 & 1;
        int d2 = d >> 2 & 1;
        int d3 = d >> 3 & 1;
        int word = (1 + d0 + d2 + d3) % 2
            + 2 * d0
            + 4 * ((1 + d0 + d1 + d3) % 2)
            + 8 * d1
            + 16 * ((1 + d0 + d1 + d2) % 2)
            + 32 * d2
            + 128 * d3;
        return Integer.bitCount(word) % 2 == 1 ? word : word + 64;
    }

    /** A byte that differs from every code word in two bits or more. */
    static int lostNibble() {
        return codeWord(0) ^ 3;
    }

    static int letterByte(int letter) {
        return Integer.bitCount(letter) % 2 == 1 ? letter : letter + 128;
    }

    /** The 24 places of a good triplet, place 1 being the lowest bit. */
    static int triplet(int address, int mode, int data) {
        int bits = address | mode << 6 | data << 11;
        int places = 0;
        for (int i = 0; i < DATA_PLACES.length; i++) {
            places |= (bits >> i & 1) << (DATA_PLACES[i] - 1);
        }
        for (int j = 0; j < 5; j++) {
            int ones = 0;
            for (int place = 1; place <= 23; place++) {
                if ((place >> j & 1) == 1) {
                    ones += places >> (place - 1) & 1;
                }
            }
            if (ones % 2 == 0) {
                places |= 1 << ((1 << j) - 1);
            }
        }
        return Integer.bitCount(places) % 2 == 1 ? places : places | 1 << 23;
    }

    /** A packet with an address, and spaces behind it. */
    static int[] packet(int magazine, int row) {
        int[] packet = new int[22];
        packet[0] = codeWord(magazine + 8 * (row % 2));
        packet[1] = codeWord(row / 2);
        for (int i = 2; i < 22; i++) {
            packet[i] = letterByte(32);
        }
        return packet;
    }

    /** A header; page has the tens and units, as in 0x21; nibbles are c, s, t, g. */
    static int[] header(int magazine, int page, int c, int s, int t, int g, String text) {
        int[] packet = packet(magazine, 0);
        int[] nibbles = {page & 15, page >> 4, c, s, t, g};
        for (int i = 0; i < 6; i++) {
            packet[2 + i] = codeWord(nibbles[i]);
        }
        packet[8] = 0;
        packet[9] = 0;
        for (int i = 0; i < text.length(); i++) {
            packet[10 + i] = letterByte(text.charAt(i));
        }
        return packet;
    }

    static int[] header(int magazine, int page) {
        return header(magazine, page, 0, 0, 0, 0, "");
    }

    /** A header without a page: the page that is coming is completed. */
    static int[] end(int magazine) {
        return header(magazine, 0xFF);
    }

    static int[] row(int magazine, int row, int... letters) {
        int[] packet = packet(magazine, row);
        for (int i = 0; i < letters.length; i++) {
            packet[2 + i] = letterByte(letters[i]);
        }
        return packet;
    }

    static int[] row(int magazine, int row, String text) {
        return row(magazine, row, text.chars().toArray());
    }

    /** Row 26 with up to six triplets; the others do nothing. */
    static int[] overlays(int magazine, int... triplets) {
        int[] packet = packet(magazine, 26);
        for (int i = 0; i < 6; i++) {
            int places = i < triplets.length ? triplets[i] : triplet(63, 0, 0);
            packet[2 + 3 * i] = places & 255;
            packet[3 + 3 * i] = places >> 8 & 255;
            packet[4 + 3 * i] = places >> 16 & 255;
        }
        return packet;
    }

    /** Row 27 with the nibbles units, tens, m of each of the four links. */
    static int[] links(int magazine, int... nibbles) {
        int[] packet = packet(magazine, 27);
        for (int i = 0; i < nibbles.length; i++) {
            packet[2 + i] = codeWord(nibbles[i]);
        }
        return packet;
    }

    static int[] with(int[] packet, int at, int value) {
        int[] changed = packet.clone();
        changed[at] = value;
        return changed;
    }

    static void send(PageReceiver x, int[]... packets) {
        for (int[] packet : packets) {
            x.feed(number(packet, 0, 8), 8);
            x.feed(number(packet, 8, 16), 8);
            x.feed(number(packet, 16, 22), 6);
        }
    }

    private static long number(int[] packet, int from, int to) {
        long number = 0;
        for (int i = from; i < to; i++) {
            number = number << 8 | packet[i];
        }
        return number;
    }

    /** Keeps a page that has nothing but its header. */
    static void keep(PageReceiver x, int magazine, int page) {
        send(x, header(magazine, page), end(magazine));
    }

    /** An object that keeps page 100 alone, which has come with these packets behind its header. */
    static PageReceiver receiving(int[]... packets) {
        PageReceiver x = new PageReceiver(1);
        send(x, header(1, 0x00));
        send(x, packets);
        send(x, end(1));
        return x;
    }

    /** An object that shows page 100 with letters in one row. */
    static PageReceiver showing(int row, int... letters) {
        PageReceiver x = new PageReceiver(2);
        send(x, header(1, 0x00), row(1, row, letters), end(1));
        return x;
    }

    static void keys(PageReceiver x, int... keys) {
        for (int key : keys) {
            x.key(key);
        }
    }
}
