/** Compares two objects by what they answer; some two hundred calls on each. */
final class Receivers {
    private Receivers() {
    }

    /** What was counted is left out: a packet that changes nothing else is counted still. */
    static void same(String name, PageReceiver x, PageReceiver y) {
        Check.due(name + ": shown", x.shown(), y.shown());
        for (int what = 0; what < 4; what++) {
            Check.due(name + ": viewer " + what, x.viewer(what), y.viewer(what));
            for (int k = 0; k < 4; k++) {
                Check.due(name + ": kept " + k + ", " + what, x.kept(k, what), y.kept(k, what));
                Check.due(name + ": kept " + k + ", " + (4 + what), x.kept(k, 4 + what), y.kept(k, 4 + what));
            }
        }
        for (int cell = 0; cell < 160; cell++) {
            int row = cell / 20;
            int column = cell % 20;
            Check.due(name + ": letter " + row + ", " + column, x.look(row, column, 0), y.look(row, column, 0));
        }
    }
}
