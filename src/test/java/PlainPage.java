import java.util.Arrays;

/** A page, as the document tells of it. */
final class PlainPage {
    int number;
    int subcode;
    int set;
    int completedBefore;
    final int[][] letters = new int[8][20];
    final int[][] overlays = new int[8][20];
    final int[] links = {PageReceiver.NONE, PageReceiver.NONE, PageReceiver.NONE, PageReceiver.NONE};

    PlainPage(int number) {
        this.number = number;
        for (int[] row : letters) {
            Arrays.fill(row, ' ');
        }
    }

    PlainPage copy() {
        PlainPage copy = new PlainPage(number);
        copy.subcode = subcode;
        copy.set = set;
        copy.completedBefore = completedBefore;
        for (int row = 0; row < 8; row++) {
            for (int column = 0; column < 20; column++) {
                copy.letters[row][column] = letters[row][column];
                copy.overlays[row][column] = overlays[row][column];
            }
        }
        for (int k = 0; k < 4; k++) {
            copy.links[k] = links[k];
        }
        return copy;
    }
}
