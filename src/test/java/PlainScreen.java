/** All that is seen at once, row by row; the states are those of the row that is gone through. */
final class PlainScreen {
    private final PlainReceiver of;
    private final PlainPage page;
    private int colour;
    private int ground;
    private boolean mosaic;
    private boolean flash;
    private boolean conceal;
    private boolean box;
    private boolean doubled;
    private boolean separated;
    private boolean hold;
    private int held;
    private boolean heldSeparated;

    PlainScreen(PlainReceiver of) {
        this.of = of;
        this.page = of.pageShown();
    }

    PlainCell[][] cells() {
        PlainCell[][] cells = new PlainCell[8][];
        boolean lowerHalves = false;
        for (int row = 0; row < 8; row++) {
            if (lowerHalves) {
                cells[row] = lowerHalves(cells[row - 1]);
                lowerHalves = false;
            } else {
                cells[row] = row(row);
                lowerHalves = hasUpperHalf(cells[row]);
            }
        }
        return cells;
    }

    private static PlainCell[] lowerHalves(PlainCell[] above) {
        PlainCell[] cells = new PlainCell[20];
        for (int column = 0; column < 20; column++) {
            cells[column] = above[column].asLowerHalf();
        }
        return cells;
    }

    private static boolean hasUpperHalf(PlainCell[] cells) {
        for (PlainCell cell : cells) {
            if (cell.upper()) {
                return true;
            }
        }
        return false;
    }

    private int letterOf(int row, int column) {
        if (row == 0 && column < 8) {
            String digits = String.format("%03X", of.wanted);
            String magazine = digits.charAt(0) == '0' ? "8" : digits.substring(0, 1);
            return ("P" + magazine + digits.substring(1) + "    ").charAt(column);
        }
        if (page != null) {
            return page.letters[row][column];
        }
        return row == 0 ? of.rolling[column] : ' ';
    }

    private int overlayOf(int row, int column) {
        return page == null || row == 0 && column < 8 ? 0 : page.overlays[row][column];
    }

    private PlainCell[] row(int row) {
        colour = 7;
        ground = 0;
        mosaic = flash = conceal = box = doubled = separated = hold = false;
        forget();
        PlainCell[] cells = new PlainCell[20];
        for (int column = 0; column < 20; column++) {
            int letter = letterOf(row, column);
            if (letter < 32) {
                atOnce(letter);
                boolean block = hold && mosaic;
                cells[column] = cell(row, block ? held : ' ', block, heldSeparated);
                after(letter);
            } else {
                cells[column] = letterCell(row, letter, overlayOf(row, column));
            }
        }
        return cells;
    }

    private PlainCell letterCell(int row, int letter, int overlay) {
        if (overlay != 0) {
            return cell(row, overlay, false, false);
        }
        if (mosaic && !(letter >= 64 && letter <= 95)) {
            held = letter;
            heldSeparated = separated;
            return cell(row, letter, true, separated);
        }
        int index = "#$@[\\]^_`{|}~".indexOf(letter);
        boolean ofSet = index >= 0 && page != null && page.set != 0;
        return cell(row, ofSet ? 512 + 16 * page.set + index : letter, false, false);
    }

    private PlainCell cell(int row, int letter, boolean block, boolean asSeparated) {
        boolean hidden = conceal && !of.revealed || flash && !of.light;
        boolean upper = doubled && row >= 1 && row <= 6;
        return new PlainCell(hidden ? ' ' : letter, colour, ground, block && !hidden, asSeparated, upper, false,
            flash, conceal, box);
    }

    private void forget() {
        held = ' ';
        heldSeparated = false;
    }

    private void atOnce(int mark) {
        switch (mark) {
            case 9 -> flash = false;
            case 12 -> setDouble(false);
            case 24 -> conceal = true;
            case 25 -> separated = false;
            case 26 -> separated = true;
            case 28 -> ground = 0;
            case 29 -> ground = colour;
            case 30 -> hold = true;
            default -> { }
        }
    }

    private void after(int mark) {
        switch (mark) {
            case 0, 1, 2, 3, 4, 5, 6, 7 -> setColour(mark, false);
            case 16, 17, 18, 19, 20, 21, 22, 23 -> setColour(mark - 16, true);
            case 8 -> flash = true;
            case 10 -> box = false;
            case 11 -> box = true;
            case 13 -> setDouble(true);
            case 31 -> hold = false;
            default -> { }
        }
    }

    private void setColour(int newColour, boolean newMosaic) {
        if (mosaic != newMosaic) {
            forget();
        }
        colour = newColour;
        mosaic = newMosaic;
        conceal = false;
    }

    private void setDouble(boolean newDouble) {
        if (doubled != newDouble) {
            forget();
        }
        doubled = newDouble;
    }
}
