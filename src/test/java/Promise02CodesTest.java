/** Promise 2, the codes: nibbles and triplets with errors in all their bits. */
public final class Promise02CodesTest {
    private Promise02CodesTest() {
    }

    public static void main(String[] args) {
        everyByteAsANibble();
        everyAddress();
        goodTriplets();
        tripletsWithOneError();
        tripletsWithTwoErrors();
        tripletsWithThreeErrors();
        Check.finish();
    }

    /** The byte stands for c, which kept tells as the subcode. */
    private static void everyByteAsANibble() {
        for (int value = 0; value < 256; value++) {
            int told = -1;
            int errors = 0;
            for (int d = 0; d < 16; d++) {
                int differing = Integer.bitCount(Sender.codeWord(d) ^ value);
                if (differing <= 1) {
                    told = d;
                    errors = differing;
                }
            }
            PageReceiver x = new PageReceiver(1);
            Sender.send(x, Sender.with(Sender.header(1, 0x00), 4, value), Sender.end(1));
            Check.due("subcode of " + value, x.kept(0, 1), told);
            Check.due("mended of " + value, x.count(2), errors);
            Check.due("lost of " + value, x.count(3), told == -1 ? 1 : 0);
            Check.due("dropped of " + value, x.count(1), told == -1 ? 1 : 0);
        }
    }

    private static void everyAddress() {
        for (int magazine = 0; magazine < 8; magazine++) {
            PageReceiver x = new PageReceiver(1);
            Sender.send(x, Sender.header(magazine, 0x00));
            for (int row = 1; row < 8; row++) {
                Sender.send(x, Sender.row(magazine, row, '0' + row));
            }
            Sender.send(x, Sender.end(magazine));
            Sender.keys(x, magazine == 0 ? 8 : magazine, 0, 0);
            Check.due("number", x.shown(), 256 * magazine);
            for (int row = 1; row < 8; row++) {
                Check.due("magazine " + magazine + ", row " + row, x.look(row, 0, 0), '0' + row);
            }
        }
    }

    /** A receiver that shows page 100 with one triplet, the first of row 26 (the active row is 0). */
    private static PageReceiver receiving(int places) {
        PageReceiver x = new PageReceiver(1);
        Sender.send(x, Sender.header(1, 0x00), Sender.overlays(1, places), Sender.end(1));
        return x;
    }

    private static void goodTriplets() {
        for (int address = 8; address < 20; address++) {
            for (int mode = 0; mode < 32; mode++) {
                int data = (37 * address + 11 * mode) % 128;
                PageReceiver x = receiving(Sender.triplet(address, mode, data));
                int due = mode < 15 ? 32 : mode == 15 ? data + 128 : data + 256 * (mode - 15);
                Check.due("address " + address + ", mode " + mode, x.look(0, address, 0), due);
                Check.due("mended", x.count(2), 0);
                Check.due("lost", x.count(3), 0);
            }
        }
    }

    private static void tripletsWithOneError() {
        for (int data = 0; data < 128; data += 3) {
            int places = Sender.triplet(8 + data % 12, 16 + data % 16, data);
            for (int place = 1; place <= 24; place++) {
                PageReceiver x = receiving(places ^ 1 << (place - 1));
                int due = data + 256 * (1 + data % 16);
                Check.due("place " + place + " turned round", x.look(0, 8 + data % 12, 0), due);
                Check.due("mended", x.count(2), 1);
                Check.due("lost", x.count(3), 0);
            }
        }
    }

    private static void tripletsWithTwoErrors() {
        int places = Sender.triplet(10, 21, 77);
        for (int one = 1; one <= 24; one++) {
            for (int other = one + 1; other <= 24; other++) {
                PageReceiver x = receiving(places ^ 1 << (one - 1) ^ 1 << (other - 1));
                Check.due("places " + one + " and " + other, x.look(0, 10, 0), 32);
                Check.due("mended", x.count(2), 0);
                Check.due("lost", x.count(3), 1);
            }
        }
    }

    /** Three errors fail at the sum (xor) of their places; from 24 on that is no place to mend. */
    private static void tripletsWithThreeErrors() {
        int places = Sender.triplet(10, 21, 77);
        for (int one = 1; one <= 24; one++) {
            for (int other = one + 1; other <= 24; other++) {
                for (int third = other + 1; third <= 24; third += 5) {
                    int failing = checked(one) ^ checked(other) ^ checked(third);
                    int turned = places ^ 1 << (one - 1) ^ 1 << (other - 1) ^ 1 << (third - 1);
                    PageReceiver x = receiving(turned);
                    String name = one + ", " + other + ", " + third;
                    Check.due("mended " + name, x.count(2), failing < 24 ? 1 : 0);
                    Check.due("lost " + name, x.count(3), failing < 24 ? 0 : 1);
                }
            }
        }
    }

    private static int checked(int place) {
        return place == 24 ? 0 : place;
    }
}
