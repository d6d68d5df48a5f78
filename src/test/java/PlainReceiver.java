import java.util.ArrayList;
import java.util.Arrays;
import java.util.List;

/** The whole class once more, written from the document sentence by sentence: what the other one is compared with. */
final class PlainReceiver {
    private static final int NONE = PageReceiver.NONE;

    private final PlainPage[] kept;
    private final PlainPage[] coming = new PlainPage[8];
    private final List<Integer> bytes = new ArrayList<>();
    private final List<Integer> digits = new ArrayList<>();
    private final int[] counts = new int[6];
    private PlainPage held;
    final int[] rolling = new int[20];
    int wanted = 256;
    boolean revealed;
    boolean light = true;

    PlainReceiver(int places) {
        kept = new PlainPage[places < 1 ? 1 : places > 4 ? 4 : places];
        Arrays.fill(rolling, ' ');
    }

    int feed(long value, int n) {
        if (n < 1 || n > 8) {
            return NONE;
        }
        String hex = String.format("%016x", value).substring(16 - 2 * n);
        for (int i = 0; i < n; i++) {
            bytes.add(Integer.parseInt(hex.substring(2 * i, 2 * i + 2), 16));
            if (bytes.size() == 22) {
                take();
                bytes.clear();
            }
        }
        return bytes.size();
    }

    int reset() {
        int thrownAway = bytes.size();
        bytes.clear();
        return thrownAway;
    }

    boolean tick() {
        light = !light;
        return light;
    }

    int shown() {
        return pageShown() == null ? NONE : pageShown().number;
    }

    int viewer(int what) {
        return switch (what) {
            case 0 -> wanted;
            case 1 -> digits.size();
            case 2 -> held == null ? 0 : 1;
            case 3 -> revealed ? 1 : 0;
            default -> NONE;
        };
    }

    int kept(int k, int what) {
        if (k < 0 || k >= kept.length || kept[k] == null || what < 0 || what > 7) {
            return NONE;
        }
        PlainPage page = kept[k];
        int[] all = {page.number, page.subcode, page.set, page.completedBefore,
            page.links[0], page.links[1], page.links[2], page.links[3]};
        return all[what];
    }

    int count(int what) {
        return what >= 0 && what <= 5 ? counts[what] : NONE;
    }

    int look(int row, int column, int what) {
        return isCell(row, column) ? new PlainScreen(this).cells()[row][column].tell(what) : NONE;
    }

    int point(int row, int column, int u, int v) {
        if (!isCell(row, column) || u < 0 || u > 3 || v < 0 || v > 5) {
            return NONE;
        }
        return new PlainScreen(this).cells()[row][column].colourAt(u, v);
    }

    private static boolean isCell(int row, int column) {
        return row >= 0 && row <= 7 && column >= 0 && column <= 19;
    }

    boolean key(int key) {
        if (key < 0 || key > 15) {
            return false;
        }
        if (key <= 9) {
            return digit(key);
        }
        digits.clear();
        if (key == 15) {
            revealed = !revealed;
            return true;
        }
        PlainPage page = pageShown();
        if (page == null) {
            return false;
        }
        if (key == 14) {
            held = held == null ? page.copy() : null;
            return true;
        }
        return page.links[key - 10] != NONE && want(page.links[key - 10]);
    }

    private boolean digit(int key) {
        if (digits.isEmpty() && (key == 0 || key == 9)) {
            return false;
        }
        digits.add(key);
        if (digits.size() == 3) {
            want(256 * (digits.get(0) % 8) + 16 * digits.get(1) + digits.get(2));
            digits.clear();
        }
        return true;
    }

    private boolean want(int number) {
        wanted = number;
        held = null;
        revealed = false;
        return true;
    }

    PlainPage pageShown() {
        return held != null ? held : keptPage(wanted);
    }

    private PlainPage keptPage(int number) {
        for (PlainPage page : kept) {
            if (page != null && page.number == number) {
                return page;
            }
        }
        return null;
    }

    private PlainCodes.Told counted(PlainCodes.Told told) {
        counts[2] += told.mended() ? 1 : 0;
        counts[3] += told.isLost() ? 1 : 0;
        return told;
    }

    private int nibble(int at) {
        return counted(PlainCodes.nibble(bytes.get(at))).told();
    }

    private int letter(int at) {
        PlainCodes.Told told = PlainCodes.letter(bytes.get(at));
        counts[4] += told.isLost() ? 1 : 0;
        return told.told();
    }

    private void take() {
        counts[0]++;
        int p = nibble(0);
        if (p == NONE) {
            counts[1]++;
            return;
        }
        int q = nibble(1);
        if (q == NONE) {
            counts[1]++;
            return;
        }
        int magazine = p % 8;
        int row = p / 8 + 2 * q;
        if (row == 0) {
            header(magazine);
        } else if (coming[magazine] == null) {
            return;
        } else if (row <= 7) {
            letters(coming[magazine].letters[row]);
        } else if (row == 26) {
            overlays(coming[magazine]);
        } else if (row == 27) {
            links(coming[magazine], magazine);
        }
    }

    private void letters(int[] row) {
        for (int column = 0; column < 20; column++) {
            int letter = letter(2 + column);
            row[column] = letter == NONE ? row[column] : letter;
        }
    }

    private void header(int magazine) {
        int[] nibbles = new int[6];
        for (int i = 0; i < 6; i++) {
            nibbles[i] = nibble(2 + i);
            if (nibbles[i] == NONE) {
                counts[1]++;
                return;
            }
        }
        for (int m = 0; m < 8; m++) {
            if (nibbles[4] % 2 == 1 || m == magazine) {
                complete(m);
            }
        }
        boolean isPage = nibbles[0] != 15 || nibbles[1] != 15;
        if (isPage) {
            coming[magazine] = beginning(256 * magazine + 16 * nibbles[1] + nibbles[0], nibbles[3]);
            coming[magazine].subcode = nibbles[2];
            coming[magazine].set = nibbles[5] % 8;
        }
        for (int column = 8; column < 20; column++) {
            int letter = letter(2 + column);
            if (letter != NONE && isPage) {
                coming[magazine].letters[0][column] = letter;
            }
            if (letter != NONE && nibbles[4] / 2 % 2 == 0) {
                rolling[column] = letter;
            }
        }
    }

    private PlainPage beginning(int number, int s) {
        PlainPage before = keptPage(number);
        return before != null && s < 8 ? before.copy() : new PlainPage(number);
    }

    private void complete(int magazine) {
        PlainPage page = coming[magazine];
        if (page == null) {
            return;
        }
        coming[magazine] = null;
        page.completedBefore = counts[5];
        counts[5]++;
        kept[placeFor(page.number)] = page;
    }

    private int placeFor(int number) {
        for (int k = 0; k < kept.length; k++) {
            if (kept[k] != null && kept[k].number == number) {
                return k;
            }
        }
        for (int k = 0; k < kept.length; k++) {
            if (kept[k] == null) {
                return k;
            }
        }
        int place = NONE;
        for (int k = 0; k < kept.length; k++) {
            boolean counts = kept.length == 1 || kept[k].number != wanted;
            if (counts && (place == NONE || kept[k].completedBefore < kept[place].completedBefore)) {
                place = k;
            }
        }
        return place;
    }

    private void overlays(PlainPage page) {
        int active = 0;
        for (int at = 2; at < 20; at += 3) {
            PlainCodes.Told told = counted(PlainCodes.triplet(bytes.get(at), bytes.get(at + 1), bytes.get(at + 2)));
            if (told.isLost()) {
                continue;
            }
            int address = told.told() % 64;
            int mode = told.told() / 64 % 32;
            int data = told.told() / 2048;
            if (mode == 4 && address >= 40 && address <= 47) {
                active = address - 40;
            } else if (mode >= 15 && address < 20) {
                page.overlays[active][address] = mode == 15 ? data + 128 : data + 256 * (mode - 15);
            }
        }
    }

    private void links(PlainPage page, int magazine) {
        for (int k = 0; k < 4; k++) {
            int units = nibble(2 + 3 * k);
            int tens = nibble(3 + 3 * k);
            int m = nibble(4 + 3 * k);
            if (units != NONE && tens != NONE && m != NONE) {
                page.links[k] = 256 * ((magazine ^ m) % 8) + 16 * tens + units;
            }
        }
    }
}
