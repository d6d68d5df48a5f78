/** Promise 7: what the viewer has asked for. */
public final class Promise07ViewerTest {
    private Promise07ViewerTest() {
    }

    private static void viewer(String name, PageReceiver x, int... due) {
        for (int what = 0; what < 4; what++) {
            Check.due(name + ": viewer " + what, x.viewer(what), due[what]);
        }
    }

    public static void main(String[] args) {
        PageReceiver x = new PageReceiver(2);
        viewer("new", x, 256, 0, 0, 0);
        for (int what : new int[] {-1, 4, 5, Integer.MIN_VALUE, Integer.MAX_VALUE}) {
            Check.due("viewer " + what, x.viewer(what), -1);
        }
        x.key(7);
        viewer("one digit", x, 256, 1, 0, 0);
        x.key(0);
        viewer("two digits", x, 256, 2, 0, 0);
        x.key(9);
        viewer("three digits", x, 0x709, 0, 0, 0);
        x.key(14);
        viewer("nothing to hold", x, 0x709, 0, 0, 0);
        Sender.keep(x, 7, 0x09);
        x.key(14);
        viewer("held", x, 0x709, 0, 1, 0);
        x.key(15);
        viewer("revealed", x, 0x709, 0, 1, 1);
        x.key(14);
        viewer("held no longer", x, 0x709, 0, 0, 1);
        x.key(15);
        viewer("revealed no longer", x, 0x709, 0, 0, 0);
        Check.finish();
    }
}
