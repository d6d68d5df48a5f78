/** Promise 6: the number of the page that is shown. */
public final class Promise06ShownTest {
    private Promise06ShownTest() {
    }

    public static void main(String[] args) {
        PageReceiver x = new PageReceiver(2);
        Check.due("new", x.shown(), -1);
        Sender.send(x, Sender.header(1, 0x00));
        Check.due("coming", x.shown(), -1);
        Sender.send(x, Sender.end(1));
        Check.due("kept", x.shown(), 256);
        Sender.keys(x, 8, 1, 2);
        Check.due("another is wanted", x.shown(), -1);
        Sender.keep(x, 0, 0x12);
        Check.due("number of magazine 8", x.shown(), 0x012);
        Sender.keys(x, 1, 0);
        Check.due("digits wait", x.shown(), 0x012);
        x.key(0);
        Check.due("the first again", x.shown(), 256);
        onePlace();
        Check.finish();
    }

    private static void onePlace() {
        PageReceiver x = new PageReceiver(1);
        Sender.keep(x, 1, 0x00);
        Sender.keep(x, 1, 0x01);
        Check.due("kept no longer", x.shown(), -1);
        Sender.keep(x, 1, 0x00);
        x.key(14);
        Sender.keep(x, 1, 0x01);
        Check.due("held", x.shown(), 256);
        x.key(14);
        Check.due("held no longer", x.shown(), -1);
    }
}
