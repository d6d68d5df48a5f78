/** What is seen in a cell. */
record PlainCell(int letter, int colour, int ground, boolean block, boolean separated, boolean upper, boolean lower,
        boolean flash, boolean conceal, boolean box) {

    PlainCell asLowerHalf() {
        if (upper) {
            return new PlainCell(letter, colour, ground, block, separated, false, true, flash, conceal, box);
        }
        return new PlainCell(' ', colour, ground, false, false, false, false, false, false, box);
    }

    int tell(int what) {
        return switch (what) {
            case 0 -> letter;
            case 1 -> colour;
            case 2 -> ground;
            case 3 -> sum();
            default -> PageReceiver.NONE;
        };
    }

    private int sum() {
        boolean[] parts = {block, block && separated, upper, lower, flash, conceal, box};
        int sum = 0;
        for (int i = 0; i < parts.length; i++) {
            sum += parts[i] ? 1 << i : 0;
        }
        return sum;
    }

    int colourAt(int u, int v) {
        int w = upper ? v / 2 : lower ? 3 + v / 2 : v;
        return isFilled(u, w) ? colour : ground;
    }

    private boolean isFilled(int u, int w) {
        if (block) {
            int[][] bits = {{0, 1}, {2, 3}, {4, 6}};
            boolean gap = separated && (u == 1 || u == 3 || w == 1 || w == 3 || w == 5);
            return !gap && (letter >> bits[w / 2][u / 2]) % 2 == 1;
        }
        long shape = (long) letter * 40503 ^ (long) letter * 128;
        return letter != ' ' && (shape >> (w * 4 + u)) % 2 == 1;
    }
}
