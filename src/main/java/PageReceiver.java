import java.util.Arrays;

/** A receiver of pages of text that come in packets; the numbered promises are those of DOC.md. */
public final class PageReceiver {
    public static final int NONE = -1;

    private static final int MAGAZINES = 8;
    private static final int ROWS = 8;
    private static final int COLUMNS = 20;
    private static final int LINKS = 4;
    private static final int MOST_PLACES = 4;
    private static final int PACKET_BYTES = 22;
    private static final int SPACE = 32;
    /** Row 0 of what is seen tells the wanted page up to here; a header's letters begin here. */
    private static final int HEAD_COLUMNS = 8;

    /** What is counted, by the number that asks for it. */
    private static final int CAME = 0;
    private static final int DROPPED = 1;
    private static final int MENDED = 2;
    private static final int LOST = 3;
    private static final int WRONG = 4;
    private static final int COMPLETED = 5;
    private static final int TALLIES = 6;

    /** The parts of the sum that tells how a cell is seen. */
    private static final int BLOCK = 1;
    private static final int SEPARATED = 2;
    private static final int UPPER = 4;
    private static final int LOWER = 8;
    private static final int FLASH = 16;
    private static final int CONCEAL = 32;
    private static final int BOX = 64;

    /** The code words of the nibbles 0 to 15. */
    private static final int[] CODE_WORDS = {
        0x15, 0x02, 0x49, 0x5E, 0x64, 0x73, 0x38, 0x2F,
        0xD0, 0xC7, 0x8C, 0x9B, 0xA1, 0xB6, 0xFD, 0xEA
    };

    /** For j = 0 .. 4 the places 1 to 23 of a triplet that have 2^j in them; place 1 is the lowest bit. */
    private static final int[] CHECKED_PLACES = {0x555555, 0x666666, 0x787878, 0x007F80, 0x7F8000};

    private final int[] tally;
    private final Packet packet;
    private final Shelf shelf;
    private final Remote remote;
    private final Tuner tuner;
    private final Screen screen;

    public PageReceiver(int places) {
        tally = new int[TALLIES];
        packet = new Packet(tally);
        shelf = new Shelf(Math.max(1, Math.min(MOST_PLACES, places)), tally);
        remote = new Remote(shelf);
        tuner = new Tuner(packet, shelf, remote, tally);
        screen = new Screen(remote, tuner.rolling);
    }

    public int feed(long bytes, int n) {
        if (n < 1 || n > 8) {
            return NONE;
        }
        for (int i = n - 1; i >= 0; i--) {
            packet.put((int) (bytes >>> (8 * i)) & 255);
            if (packet.isWhole()) {
                tuner.takePacket();
                packet.empty();
            }
        }
        return packet.size;
    }

    public int reset() {
        return packet.empty();
    }

    public boolean key(int key) {
        if (key < 0 || key > 15) {
            return false;
        }
        return key <= 9 ? remote.pressDigit(key) : remote.pressCommand(key);
    }

    public boolean tick() {
        screen.light = !screen.light;
        return screen.light;
    }

    public int shown() {
        Page page = remote.pageShown();
        return page == null ? NONE : page.number;
    }

    public int viewer(int what) {
        switch (what) {
            case 0:
                return remote.wanted;
            case 1:
                return remote.waiting;
            case 2:
                return remote.held.there ? 1 : 0;
            case 3:
                return remote.revealed ? 1 : 0;
            default:
                return NONE;
        }
    }

    public int kept(int k, int what) {
        Page page = shelf.pageIn(k);
        return page == null ? NONE : page.tell(what);
    }

    public int count(int what) {
        return what < 0 || what >= TALLIES ? NONE : tally[what];
    }

    public int look(int row, int column, int what) {
        if (!isCell(row, column)) {
            return NONE;
        }
        screen.see(row, column);
        switch (what) {
            case 0:
                return screen.letter;
            case 1:
                return screen.colour;
            case 2:
                return screen.ground;
            case 3:
                return screen.sum;
            default:
                return NONE;
        }
    }

    public int point(int row, int column, int u, int v) {
        if (!isCell(row, column) || u < 0 || u > 3 || v < 0 || v > 5) {
            return NONE;
        }
        screen.see(row, column);
        return screen.colourAt(u, v);
    }

    private static boolean isCell(int row, int column) {
        return row >= 0 && row < ROWS && column >= 0 && column < COLUMNS;
    }

    /** The bytes of the packet that is being put together, and what they tell; counts what it mends and loses. */
    private static final class Packet {
        private final int[] bytes = new int[PACKET_BYTES];
        private final int[] tally;
        private int size;

        Packet(int[] tally) {
            this.tally = tally;
        }

        void put(int value) {
            if (size < PACKET_BYTES) {
                bytes[size] = value;
                size++;
            }
        }

        boolean isWhole() {
            return size == PACKET_BYTES;
        }

        int empty() {
            int thrownAway = size;
            size = 0;
            return thrownAway;
        }

        private int byteAt(int at) {
            return at < 0 || at >= PACKET_BYTES ? 0 : bytes[at];
        }

        /** The nibble of a byte, NONE when it is lost. */
        int nibble(int at) {
            for (int d = 0; d < CODE_WORDS.length; d++) {
                int differing = Integer.bitCount(CODE_WORDS[d] ^ byteAt(at));
                if (differing <= 1) {
                    tally[MENDED] += differing;
                    return d;
                }
            }
            tally[LOST]++;
            return NONE;
        }

        /** The letter of a byte, NONE when it is wrong. */
        int letter(int at) {
            int value = byteAt(at);
            if (!isOdd(value)) {
                tally[WRONG]++;
                return NONE;
            }
            return value & 127;
        }

        /** The 18 bits of the triplet that begins with a byte, NONE when it is lost. */
        int triplet(int at) {
            int places = byteAt(at) | byteAt(at + 1) << 8 | byteAt(at + 2) << 16;
            int failing = failingSum(places);
            if (isOdd(places) && failing == 0) {
                return bitsOf(places);
            }
            if (isOdd(places) || failing >= 24) {
                tally[LOST]++;
                return NONE;
            }
            tally[MENDED]++;
            int turned = failing == 0 ? 24 : failing;
            return bitsOf(places ^ 1 << (turned - 1));
        }

        private static int failingSum(int places) {
            int sum = 0;
            for (int j = 0; j < CHECKED_PLACES.length; j++) {
                if (!isOdd(places & CHECKED_PLACES[j])) {
                    sum += 1 << j;
                }
            }
            return sum;
        }

        private static boolean isOdd(int ones) {
            return Integer.bitCount(ones) % 2 == 1;
        }

        /** The bits of the places 3, 5 to 7, 9 to 15 and 17 to 23, put side by side. */
        private static int bitsOf(int places) {
            return places >> 2 & 1
                | (places >> 4 & 7) << 1
                | (places >> 8 & 127) << 4
                | (places >> 16 & 127) << 11;
        }
    }

    /** A page, or room for one: pages are made once and filled again, so that a run makes few objects. */
    private static final class Page {
        private boolean there;
        private int number;
        private int subcode;
        private int set;
        private int completedBefore;
        private final int[] letters = new int[ROWS * COLUMNS];
        private final int[] overlays = new int[ROWS * COLUMNS];
        private final int[] links = new int[LINKS];

        /** Makes this a new page; its header tells its subcode and its set. */
        void begin(int newNumber) {
            there = true;
            number = newNumber;
            Arrays.fill(letters, SPACE);
            Arrays.fill(overlays, 0);
            Arrays.fill(links, NONE);
        }

        void copyFrom(Page other) {
            there = other.there;
            number = other.number;
            subcode = other.subcode;
            set = other.set;
            completedBefore = other.completedBefore;
            System.arraycopy(other.letters, 0, letters, 0, letters.length);
            System.arraycopy(other.overlays, 0, overlays, 0, overlays.length);
            System.arraycopy(other.links, 0, links, 0, links.length);
        }

        int letterAt(int row, int column) {
            return isCell(row, column) ? letters[row * COLUMNS + column] : SPACE;
        }

        int overlayAt(int row, int column) {
            return isCell(row, column) ? overlays[row * COLUMNS + column] : 0;
        }

        void setLetter(int row, int column, int letter) {
            if (isCell(row, column)) {
                letters[row * COLUMNS + column] = letter;
            }
        }

        void setOverlay(int row, int column, int overlay) {
            if (isCell(row, column)) {
                overlays[row * COLUMNS + column] = overlay;
            }
        }

        int link(int k) {
            return k < 0 || k >= LINKS ? NONE : links[k];
        }

        int tell(int what) {
            switch (what) {
                case 0:
                    return number;
                case 1:
                    return subcode;
                case 2:
                    return set;
                case 3:
                    return completedBefore;
                case 4:
                case 5:
                case 6:
                case 7:
                    return link(what - 4);
                default:
                    return NONE;
            }
        }
    }

    /** The places in which completed pages are kept. */
    private static final class Shelf {
        private final Page[] places;
        private final int[] tally;

        Shelf(int size, int[] tally) {
            this.tally = tally;
            places = new Page[size];
            for (int k = 0; k < size; k++) {
                places[k] = new Page();
            }
        }

        /** The page in a place, null when there is none. */
        Page pageIn(int k) {
            return k < 0 || k >= places.length || !places[k].there ? null : places[k];
        }

        /** The kept page with a number, null when there is none. */
        Page find(int number) {
            for (int k = 0; k < places.length; k++) {
                if (places[k].there && places[k].number == number) {
                    return places[k];
                }
            }
            return null;
        }

        void complete(Page page, int wanted) {
            Page place = placeFor(page.number, wanted);
            place.copyFrom(page);
            place.completedBefore = tally[COMPLETED];
            tally[COMPLETED]++;
            page.there = false;
        }

        private Page placeFor(int number, int wanted) {
            Page same = find(number);
            if (same != null) {
                return same;
            }
            for (int k = 0; k < places.length; k++) {
                if (!places[k].there) {
                    return places[k];
                }
            }
            return oldest(wanted);
        }

        /** The page completed longest ago; a wanted page gives way only where it has the one place. */
        private Page oldest(int wanted) {
            Page best = places[0];
            for (int k = 1; k < places.length; k++) {
                Page other = places[k];
                boolean older = other.completedBefore < best.completedBefore;
                if (other.number != wanted && (older || best.number == wanted)) {
                    best = other;
                }
            }
            return best;
        }
    }

    /** What the viewer asks for by keys, and the page that is shown for it. */
    private static final class Remote {
        private final Shelf shelf;
        private final Page held = new Page();
        private int wanted = 256;
        private int waiting;
        private int firstDigit;
        private int secondDigit;
        private boolean revealed;

        Remote(Shelf shelf) {
            this.shelf = shelf;
        }

        /** The page that is shown, null when there is none. */
        Page pageShown() {
            return held.there ? held : shelf.find(wanted);
        }

        boolean pressDigit(int digit) {
            switch (waiting) {
                case 0:
                    if (digit < 1 || digit > 8) {
                        return false;
                    }
                    firstDigit = digit;
                    waiting = 1;
                    return true;
                case 1:
                    secondDigit = digit;
                    waiting = 2;
                    return true;
                default:
                    waiting = 0;
                    want(256 * (firstDigit % 8) + 16 * secondDigit + digit);
                    return true;
            }
        }

        boolean pressCommand(int key) {
            waiting = 0;
            if (key == 14) {
                return turnHeld();
            }
            if (key == 15) {
                revealed = !revealed;
                return true;
            }
            return followLink(key - 10);
        }

        private boolean followLink(int k) {
            Page page = pageShown();
            if (page == null || page.link(k) == NONE) {
                return false;
            }
            want(page.link(k));
            return true;
        }

        private boolean turnHeld() {
            if (held.there) {
                held.there = false;
                return true;
            }
            Page page = pageShown();
            if (page == null) {
                return false;
            }
            held.copyFrom(page);
            return true;
        }

        private void want(int number) {
            wanted = number;
            held.there = false;
            revealed = false;
        }
    }

    /** The pages that are coming, one a magazine, and what each packet does to them. */
    private static final class Tuner {
        private final Packet packet;
        private final Shelf shelf;
        private final Remote remote;
        private final int[] tally;
        private final Page[] coming = new Page[MAGAZINES];
        private final int[] rolling = new int[COLUMNS];
        /** A header's nibbles: units, tens, c, s, t, g. */
        private final int[] header = new int[6];

        Tuner(Packet packet, Shelf shelf, Remote remote, int[] tally) {
            this.packet = packet;
            this.shelf = shelf;
            this.remote = remote;
            this.tally = tally;
            for (int m = 0; m < MAGAZINES; m++) {
                coming[m] = new Page();
            }
            Arrays.fill(rolling, SPACE);
        }

        void takePacket() {
            tally[CAME]++;
            int p = packet.nibble(0);
            int q = p == NONE ? NONE : packet.nibble(1);
            if (q == NONE) {
                tally[DROPPED]++;
                return;
            }
            int magazine = p % 8;
            int row = p / 8 + 2 * q;
            if (row == 0) {
                takeHeader(magazine);
            } else if (coming[magazine].there) {
                takeRow(coming[magazine], magazine, row);
            }
        }

        private void takeRow(Page page, int magazine, int row) {
            if (row < ROWS) {
                takeLetters(page, row);
            } else if (row == 26) {
                takeOverlays(page);
            } else if (row == 27) {
                takeLinks(page, magazine);
            }
        }

        private void takeHeader(int magazine) {
            if (!readHeader()) {
                tally[DROPPED]++;
                return;
            }
            int t = header[4];
            completeComing(magazine, t % 2 == 1);
            if (header[0] != 15 || header[1] != 15) {
                beginPage(magazine);
            }
            takeHeaderLetters(coming[magazine], t / 2 % 2 == 0);
        }

        /** Whether all nibbles of the header could be told; none is looked at behind a lost one. */
        private boolean readHeader() {
            for (int i = 0; i < header.length; i++) {
                header[i] = packet.nibble(2 + i);
                if (header[i] == NONE) {
                    return false;
                }
            }
            return true;
        }

        private void completeComing(int magazine, boolean all) {
            for (int m = 0; m < MAGAZINES; m++) {
                if ((all || m == magazine) && coming[m].there) {
                    shelf.complete(coming[m], remote.wanted);
                }
            }
        }

        private void beginPage(int magazine) {
            int number = 256 * magazine + 16 * header[1] + header[0];
            Page page = coming[magazine];
            Page before = header[3] < 8 ? shelf.find(number) : null;
            if (before == null) {
                page.begin(number);
            } else {
                page.copyFrom(before);
            }
            page.subcode = header[2];
            page.set = header[5] % 8;
        }

        private void takeHeaderLetters(Page page, boolean rolls) {
            for (int column = HEAD_COLUMNS; column < COLUMNS; column++) {
                int letter = packet.letter(2 + column);
                if (letter != NONE && page.there) {
                    page.setLetter(0, column, letter);
                }
                if (letter != NONE && rolls) {
                    rolling[column] = letter;
                }
            }
        }

        private void takeLetters(Page page, int row) {
            for (int column = 0; column < COLUMNS; column++) {
                int letter = packet.letter(2 + column);
                if (letter != NONE) {
                    page.setLetter(row, column, letter);
                }
            }
        }

        private void takeOverlays(Page page) {
            int activeRow = 0;
            for (int i = 0; i < 6; i++) {
                int triplet = packet.triplet(2 + 3 * i);
                if (triplet != NONE) {
                    activeRow = takeTriplet(page, activeRow, triplet);
                }
            }
        }

        /** Does what a triplet says; the active row behind it. */
        private static int takeTriplet(Page page, int activeRow, int triplet) {
            int address = triplet & 63;
            int mode = triplet >> 6 & 31;
            int data = triplet >> 11 & 127;
            if (address >= 40 && address <= 47 && mode == 4) {
                return address - 40;
            }
            if (address < COLUMNS && mode == 15) {
                page.setOverlay(activeRow, address, data + 128);
            } else if (address < COLUMNS && mode >= 16) {
                page.setOverlay(activeRow, address, data + 256 * (mode - 15));
            }
            return activeRow;
        }

        private void takeLinks(Page page, int magazine) {
            for (int k = 0; k < LINKS; k++) {
                int units = packet.nibble(2 + 3 * k);
                int tens = packet.nibble(3 + 3 * k);
                int m = packet.nibble(4 + 3 * k);
                if (units != NONE && tens != NONE && m != NONE) {
                    page.links[k] = 256 * ((magazine ^ m) % 8) + 16 * tens + units;
                }
            }
        }
    }

    /** The states that a row is gone through with, from the left. */
    private static final class States {
        private int colour;
        private int ground;
        private boolean mosaic;
        private boolean flash;
        private boolean conceal;
        private boolean box;
        private boolean doubled;
        private boolean separated;
        private boolean hold;
        private int heldLetter;
        private boolean heldSeparated;

        void begin() {
            colour = 7;
            ground = 0;
            mosaic = false;
            flash = false;
            conceal = false;
            box = false;
            doubled = false;
            separated = false;
            hold = false;
            holdLetter(SPACE, false);
        }

        void holdLetter(int letter, boolean isSeparated) {
            heldLetter = letter;
            heldSeparated = isSeparated;
        }

        private void turnMosaic(boolean on) {
            if (mosaic != on) {
                holdLetter(SPACE, false);
            }
            mosaic = on;
        }

        private void turnDouble(boolean on) {
            if (doubled != on) {
                holdLetter(SPACE, false);
            }
            doubled = on;
        }

        /** What a mark does before it is seen itself. */
        void doAtOnce(int mark) {
            switch (mark) {
                case 9:
                    flash = false;
                    break;
                case 12:
                    turnDouble(false);
                    break;
                case 24:
                    conceal = true;
                    break;
                case 25:
                    separated = false;
                    break;
                case 26:
                    separated = true;
                    break;
                case 28:
                    ground = 0;
                    break;
                case 29:
                    ground = colour;
                    break;
                case 30:
                    hold = true;
                    break;
                default:
                    break;
            }
        }

        /** What a mark does to what stands behind it. */
        void doAfter(int mark) {
            if (mark <= 7) {
                takeColour(mark, false);
            } else if (mark >= 16 && mark <= 23) {
                takeColour(mark - 16, true);
            } else if (mark == 8) {
                flash = true;
            } else if (mark == 10) {
                box = false;
            } else if (mark == 11) {
                box = true;
            } else if (mark == 13) {
                turnDouble(true);
            } else if (mark == 31) {
                hold = false;
            }
        }

        private void takeColour(int newColour, boolean isMosaic) {
            colour = newColour;
            turnMosaic(isMosaic);
            conceal = false;
        }

        int sum() {
            return (flash ? FLASH : 0) + (conceal ? CONCEAL : 0) + (box ? BOX : 0);
        }
    }

    /** What is seen: see() works out one cell, which the fields then tell. */
    private static final class Screen {
        private final Remote remote;
        private final int[] rolling;
        private final States states = new States();
        private boolean light = true;
        private int letter;
        private int colour;
        private int ground;
        private int sum;

        Screen(Remote remote, int[] rolling) {
            this.remote = remote;
            this.rolling = rolling;
        }

        void see(int row, int column) {
            Page page = remote.pageShown();
            boolean own = isOwn(page, row);
            int drawn = own ? row : row - 1;
            states.begin();
            for (int c = 0; c <= column; c++) {
                drawCell(page, drawn, c);
            }
            if (!own) {
                turnToLowerHalf();
            }
        }

        /** Whether a row is seen as its own, not as the lower half of that above it. */
        private boolean isOwn(Page page, int row) {
            boolean own = true;
            for (int below = 2; below <= row; below++) {
                own = !own || !hasDouble(page, below - 1);
            }
            return own;
        }

        private boolean hasDouble(Page page, int row) {
            boolean on = false;
            for (int c = 0; c < COLUMNS; c++) {
                int mark = letterAt(page, row, c);
                on = on && mark != 12;
                if (on) {
                    return true;
                }
                on = mark == 13;
            }
            return false;
        }

        private int letterAt(Page page, int row, int column) {
            if (row == 0 && column < HEAD_COLUMNS) {
                return headLetter(column);
            }
            if (page != null) {
                return page.letterAt(row, column);
            }
            return row == 0 && column < COLUMNS ? rolling[column] : SPACE;
        }

        private int headLetter(int column) {
            int magazine = remote.wanted / 256 % 8;
            switch (column) {
                case 0:
                    return 'P';
                case 1:
                    return digitLetter(magazine == 0 ? 8 : magazine);
                case 2:
                    return digitLetter(remote.wanted / 16 % 16);
                case 3:
                    return digitLetter(remote.wanted % 16);
                default:
                    return SPACE;
            }
        }

        private static int digitLetter(int digit) {
            return digit < 10 ? '0' + digit : 'A' + digit - 10;
        }

        private static int overlayAt(Page page, int row, int column) {
            boolean head = row == 0 && column < HEAD_COLUMNS;
            return page == null || head ? 0 : page.overlayAt(row, column);
        }

        private void drawCell(Page page, int row, int column) {
            int told = letterAt(page, row, column);
            if (told < SPACE) {
                states.doAtOnce(told);
                drawMark();
            } else {
                drawLetter(told, overlayAt(page, row, column), page == null ? 0 : page.set);
            }
            drawStates(row);
            if (told < SPACE) {
                states.doAfter(told);
            }
        }

        private void drawMark() {
            if (states.hold && states.mosaic) {
                drawBlock(states.heldLetter, states.heldSeparated);
            } else {
                drawPlain(SPACE);
            }
        }

        private void drawLetter(int told, int overlay, int set) {
            if (overlay != 0) {
                drawPlain(overlay);
            } else if (states.mosaic && (told < 64 || told > 95)) {
                states.holdLetter(told, states.separated);
                drawBlock(told, states.separated);
            } else {
                drawPlain(letterOfSet(told, set));
            }
        }

        private void drawBlock(int told, boolean isSeparated) {
            letter = told;
            sum = isSeparated ? BLOCK + SEPARATED : BLOCK;
        }

        private void drawPlain(int told) {
            letter = told;
            sum = 0;
        }

        private void drawStates(int row) {
            boolean dark = states.flash && !light;
            if (dark || states.conceal && !remote.revealed) {
                drawPlain(SPACE);
            }
            colour = states.colour;
            ground = states.ground;
            sum += states.sum();
            if (states.doubled && row > 0 && row < ROWS - 1) {
                sum += UPPER;
            }
        }

        private static int letterOfSet(int told, int set) {
            int index = indexInSet(told);
            return set == 0 || index == NONE ? told : 512 + 16 * set + index;
        }

        /** Where a letter stands among those that a set has its own of, NONE when it is none of them. */
        private static int indexInSet(int told) {
            if (told == 35 || told == 36) {
                return told - 35;
            }
            if (told == 64) {
                return 2;
            }
            if (told >= 91 && told <= 96) {
                return told - 88;
            }
            return told >= 123 && told <= 126 ? told - 114 : NONE;
        }

        private void turnToLowerHalf() {
            if ((sum & UPPER) != 0) {
                sum += LOWER - UPPER;
            } else {
                letter = SPACE;
                sum &= BOX;
            }
        }

        int colourAt(int u, int v) {
            int w = v;
            if ((sum & UPPER) != 0) {
                w = v / 2;
            } else if ((sum & LOWER) != 0) {
                w = 3 + v / 2;
            }
            boolean filled = (sum & BLOCK) != 0 ? blockFills(u, w) : letterFills(u, w);
            return filled ? colour : ground;
        }

        private boolean blockFills(int u, int w) {
            if ((sum & SEPARATED) != 0 && (u % 2 == 1 || w % 2 == 1)) {
                return false;
            }
            int bit = 2 * (w / 2) + u / 2;
            return (letter >> (bit == 5 ? 6 : bit) & 1) == 1;
        }

        private boolean letterFills(int u, int w) {
            int shape = letter * 40503 ^ letter << 7;
            return letter != SPACE && (shape >> (w * 4 + u) & 1) == 1;
        }
    }
}
