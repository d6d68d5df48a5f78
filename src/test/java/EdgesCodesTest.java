/** The section Terms at its edges: packets, nibbles, letters, triplets, and the address of a packet. */
public final class EdgesCodesTest {
    /** Worked out by hand from the document. */
    private static final int[] CODE_WORDS = {
        0x15, 0x02, 0x49, 0x5E, 0x64, 0x73, 0x38, 0x2F, 0xD0, 0xC7, 0x8C, 0x9B, 0xA1, 0xB6, 0xFD, 0xEA
    };
    private static final int[] BIT_PLACES = {3, 5, 6, 7, 9, 10, 11, 12, 13, 14, 15, 17, 18, 19, 20, 21, 22, 23};

    private EdgesCodesTest() {
    }

    public static void main(String[] args) {
        packetsHave22Bytes();
        codeWords();
        oneBitIsMended();
        otherBytesAreLost();
        lettersHaveOddOnes();
        threeBytesOfATriplet();
        goodTriplets();
        placesUpTo23();
        oneTurnedPlace();
        placeTwentyFour();
        greatestPlaceThatFails();
        sumsFromTwentyFourOn();
        oddButFailing();
        bitsOfATriplet();
        addresses();
        rowsByTheirNibbles();
        lostAddressDrops();
        Check.finish();
    }

    private static void packetsHave22Bytes() {
        Check.sentence("A PACKET has 22 bytes, b0 .. b21.");
        PageReceiver x = new PageReceiver(1);
        int[] packet = Sender.header(1, 0x00, 0, 0, 0, 0, "abcdefghijkl");
        for (int i = 0; i < 21; i++) {
            x.feed(packet[i], 1);
        }
        Check.due("packets of 21 bytes", x.count(0), 0);
        Check.due("21 bytes do nothing", x.look(0, 8, 0), 32);
        x.feed(packet[21], 1);
        Check.due("packets of 22 bytes", x.count(0), 1);
        Check.due("b10", x.look(0, 8, 0), 'a');
        Check.due("b21", x.look(0, 19, 0), 'l');
    }

    /** Page 100, whose header has this byte for c, which is told as its subcode. */
    private static PageReceiver withSubcode(int value) {
        PageReceiver x = new PageReceiver(1);
        Sender.send(x, Sender.with(Sender.header(1, 0x00), 4, value), Sender.end(1));
        return x;
    }

    private static void codeWords() {
        Check.sentence("the CODE WORD of d = d0 + 2 * d1 + 4 * d2 + 8 * d3 has, from its lowest bit on, "
            + "1 + d0 + d2 + d3, d0, 1 + d0 + d1 + d3, d1, 1 + d0 + d1 + d2, d2, a bit, d3 (sums modulo 2), "
            + "the bit so that the number of ones is odd.");
        for (int d = 0; d < 16; d++) {
            PageReceiver x = withSubcode(CODE_WORDS[d]);
            Check.due("nibble " + d, x.kept(0, 1), d);
            Check.due("mended of " + d, x.count(2), 0);
            Check.due("lost of " + d, x.count(3), 0);
        }
    }

    private static void oneBitIsMended() {
        Check.sentence("A byte tells the nibble whose code word differs from it in no bit, or in one "
            + "(it is MENDED then)");
        for (int d = 0; d < 16; d++) {
            for (int bit = 0; bit < 8; bit++) {
                PageReceiver x = withSubcode(CODE_WORDS[d] ^ 1 << bit);
                Check.due("nibble " + d + " without bit " + bit, x.kept(0, 1), d);
                Check.due("mended", x.count(2), 1);
                Check.due("lost", x.count(3), 0);
            }
        }
    }

    private static void otherBytesAreLost() {
        Check.sentence("any other byte is LOST.");
        for (int d = 0; d < 16; d++) {
            for (int two = 0; two < 64; two++) {
                if (two / 8 < two % 8) {
                    PageReceiver x = withSubcode(CODE_WORDS[d] ^ 1 << two / 8 ^ 1 << two % 8);
                    Check.due("nibble " + d + " without two bits", x.kept(0, 0), -1);
                    Check.due("mended", x.count(2), 0);
                    Check.due("lost", x.count(3), 1);
                }
            }
        }
    }

    private static void lettersHaveOddOnes() {
        Check.sentence("A LETTER is told by a byte with an odd number of ones: its low seven bits; "
            + "any other byte is WRONG.");
        for (int value = 0; value < 256; value++) {
            boolean odd = Integer.bitCount(value) % 2 == 1;
            int letter = value & 127;
            PageReceiver x = Sender.receiving(Sender.row(1, 1, 'x'), Sender.with(Sender.row(1, 1), 2, value));
            int due = !odd ? 'x' : letter < 32 ? 32 : letter;
            Check.due("byte " + value, x.look(1, 0, 0), due);
            Check.due("colour behind byte " + value, x.look(1, 1, 1), odd && letter < 8 ? letter
                : odd && letter >= 16 && letter < 24 ? letter - 16 : 7);
            Check.due("wrong bytes " + value, x.count(4), odd ? 0 : 1);
        }
    }

    private static int turned(int triplet, int... places) {
        int changed = triplet;
        for (int place : places) {
            changed ^= 1 << (place - 1);
        }
        return changed;
    }

    /** Page 100 with a triplet behind one that makes row 1 the active one. */
    private static PageReceiver withTriplet(int triplet) {
        return Sender.receiving(Sender.overlays(1, Sender.triplet(41, 4, 0), triplet));
    }

    private static void triplet(String name, PageReceiver x, int column, int seen, int mended, int lost) {
        Check.due(name + ": overlay", x.look(1, column, 0), seen);
        Check.due(name + ": mended", x.count(2), mended);
        Check.due(name + ": lost", x.count(3), lost);
    }

    /** Worked out by hand: the places 3 and 9 (address 17), 15 (mode 16), 19 (data 4), and 1, 8, 24 to make all odd. */
    private static void threeBytesOfATriplet() {
        Check.sentence("A TRIPLET is told by three bytes, which have the places 1 to 24, from the lowest bit of the "
            + "first on.");
        int[] packet = Sender.overlays(1, Sender.triplet(41, 4, 0));
        packet[5] = 0x85;
        packet[6] = 0x41;
        packet[7] = 0x84;
        triplet("by hand", Sender.receiving(packet), 17, 256 + 4, 0, 0);
    }

    private static void placesUpTo23() {
        Check.sentence("For j = 0 .. 4 the number of ones at all places up to 23 that have 2^j in them must be odd "
            + "(otherwise j FAILS)");
        int good = Sender.triplet(9, 20, 5);
        for (int j = 0; j < 5; j++) {
            triplet("place " + (1 << j) + " alone fails", withTriplet(turned(good, 1 << j)), 9, 1285, 1, 0);
            triplet("two places fail", withTriplet(turned(good, 1 << j, 1 << (j + 1) % 5)), 9, 32, 0, 1);
        }
        triplet("place 24 fails nowhere", withTriplet(turned(good, 24)), 9, 1285, 1, 0);
    }

    private static void goodTriplets() {
        Check.sentence("When all is odd: it is good.");
        triplet("good", withTriplet(Sender.triplet(9, 20, 5)), 9, 1285, 0, 0);
        triplet("all bits on", withTriplet(Sender.triplet(19, 31, 127)), 19, 4223, 0, 0);
        triplet("few bits on", withTriplet(Sender.triplet(0, 16, 0)), 0, 256, 0, 0);
    }

    private static void oneTurnedPlace() {
        Check.sentence("When the number of all ones is even, and the sum f of 2^j for all j that fail is below 24: "
            + "place f");
        int good = Sender.triplet(9, 20, 5);
        for (int place = 1; place <= 23; place++) {
            triplet("place " + place, withTriplet(turned(good, place)), 9, 1285, 1, 0);
        }
    }

    private static void placeTwentyFour() {
        Check.sentence("(24, if f is 0) is turned round, and it is good, MENDED.");
        triplet("place 24", withTriplet(turned(Sender.triplet(9, 20, 5), 24)), 9, 1285, 1, 0);
        triplet("place 24 of another", withTriplet(turned(Sender.triplet(3, 16, 127), 24)), 3, 383, 1, 0);
    }

    /** The places 7, 16 and 24 fail together as 23: place 23 is turned round, though it was right. */
    private static void greatestPlaceThatFails() {
        Check.sentence("the sum f of 2^j for all j that fail is below 24: place f");
        PageReceiver x = withTriplet(turned(Sender.triplet(9, 20, 5), 7, 16, 24));
        triplet("three places, f is 23", x, 9 - 8, 1285 + 64, 1, 0);
        Check.due("its own column", x.look(1, 9, 0), 32);
    }

    private static void sumsFromTwentyFourOn() {
        Check.sentence("Otherwise it is LOST.");
        for (int f = 24; f < 32; f++) {
            PageReceiver x = withTriplet(turned(Sender.triplet(9, 20, 5), f - 16, 16, 24));
            triplet("f is " + f, x, 9, 32, 0, 1);
            Receivers.same("f is " + f, x, Sender.receiving());
        }
    }

    private static void oddButFailing() {
        Check.sentence("so must the number of all ones.");
        int good = Sender.triplet(9, 20, 5);
        for (int place = 1; place <= 23; place++) {
            triplet(place + " and 24", withTriplet(turned(good, place, 24)), 9, 32, 0, 1);
            triplet(place + " and another", withTriplet(turned(good, place, place % 23 + 1)), 9, 32, 0, 1);
        }
    }

    /** Every bit alone is told by the place that it has. */
    private static void bitsOfATriplet() {
        Check.sentence("Its bits are those of the places 3, 5, 6, 7, 9 .. 15, 17 .. 23, the lowest first: "
            + "6 bits an ADDRESS, 5 bits a MODE, 7 bits DATA.");
        int mode16 = 1 << 10;
        Check.due("no bit but mode 16", withTriplet(coded(mode16)).look(1, 0, 0), 256);
        for (int bit = 0; bit < 5; bit++) {
            Check.due("address bit " + bit, withTriplet(coded(mode16 | 1 << bit)).look(1, 1 << bit, 0), 256);
        }
        Check.due("address bit 5", withTriplet(coded(mode16 | 1 << 5)).look(1, 0, 0), 32);
        for (int bit = 6; bit < 10; bit++) {
            int due = 256 * (1 + (1 << bit - 6));
            Check.due("mode bit " + (bit - 6), withTriplet(coded(mode16 | 1 << bit)).look(1, 0, 0), due);
        }
        Check.due("mode bits 0 to 3", withTriplet(coded(15 << 6)).look(1, 0, 0), 128);
        for (int bit = 11; bit < 18; bit++) {
            int due = 256 + (1 << bit - 11);
            Check.due("data bit " + (bit - 11), withTriplet(coded(mode16 | 1 << bit)).look(1, 0, 0), due);
        }
    }

    /** A good triplet with these 18 bits: each bit also turns round the places that its own place has in it. */
    private static int coded(int bits) {
        int places = turned(0, 1, 2, 4, 8, 16);
        for (int i = 0; i < 18; i++) {
            if ((bits >> i & 1) == 1) {
                places = turned(places, BIT_PLACES[i]);
                for (int check = 1; check <= 16; check *= 2) {
                    places = (BIT_PLACES[i] & check) == 0 ? places : turned(places, check);
                }
            }
        }
        return Integer.bitCount(places) % 2 == 1 ? places : turned(places, 24);
    }

    private static int[] addressed(int p, int q, int... letters) {
        int[] packet = Sender.row(0, 0, letters);
        packet[0] = CODE_WORDS[p];
        packet[1] = CODE_WORDS[q];
        return packet;
    }

    private static void addresses() {
        Check.sentence("ADDRESS of a packet: nibbles p of b0 and q of b1: the MAGAZINE is p modulo 8");
        for (int p = 8; p < 16; p++) {
            PageReceiver x = new PageReceiver(1);
            for (int magazine = 0; magazine < 8; magazine++) {
                Sender.send(x, Sender.header(magazine, 0x00));
            }
            Sender.send(x, addressed(p, 0, 'a'));
            for (int magazine = 0; magazine < 8; magazine++) {
                Sender.send(x, Sender.end(magazine));
                Sender.keys(x, magazine == 0 ? 8 : magazine, 0, 0);
                Check.due("p " + p + ", magazine " + magazine, x.look(1, 0, 0), magazine == p - 8 ? 'a' : 32);
            }
        }
    }

    private static void rowsByTheirNibbles() {
        Check.sentence("the ROW p / 8 + 2 * q.");
        for (int row = 1; row < 32; row++) {
            PageReceiver x = Sender.receiving(addressed(1 + 8 * (row % 2), row / 2, 'a', 'b'));
            for (int seen = 1; seen < 8; seen++) {
                Check.due("row " + row + " in " + seen, x.look(seen, 0, 0), seen == row ? 'a' : 32);
            }
        }
        PageReceiver y = new PageReceiver(1);
        Sender.send(y, Sender.with(Sender.header(1, 0x00), 0, CODE_WORDS[1 + 8]), Sender.end(1));
        Check.due("p 9 and q 0 is no header", y.count(5), 0);
    }

    private static void lostAddressDrops() {
        Check.sentence("A packet with one of these lost is DROPPED, changing nothing.");
        int[][] packets = {
            Sender.header(1, 0x01, 1, 8, 1, 1, "abc"), Sender.row(1, 1, "abc"), Sender.row(1, 7, "abc"),
            Sender.overlays(1, Sender.triplet(9, 16, 1)), Sender.links(1, 1, 1, 1, 2, 2, 2, 3, 3, 3, 4, 4, 4)
        };
        for (int at = 0; at < 2; at++) {
            for (int[] packet : packets) {
                PageReceiver x = Sender.receiving(Sender.with(packet, at, Sender.lostNibble()));
                Check.due("dropped", x.count(1), 1);
                Check.due("completed", x.count(5), 1);
                Receivers.same("b" + at + " lost", x, Sender.receiving());
                PageReceiver y = new PageReceiver(1);
                Sender.send(y, Sender.with(packet, at, Sender.lostNibble()));
                Receivers.same("b" + at + " lost, on a new object", y, new PageReceiver(1));
            }
        }
    }
}
