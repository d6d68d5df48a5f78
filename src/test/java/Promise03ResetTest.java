/** Promise 3: reset throws away the bytes that are no packet yet. */
public final class Promise03ResetTest {
    private Promise03ResetTest() {
    }

    public static void main(String[] args) {
        PageReceiver x = new PageReceiver(1);
        Check.due("new", x.reset(), 0);
        for (int bytes = 1; bytes <= 21; bytes++) {
            for (int i = 1; i <= bytes; i++) {
                x.feed(21, 1);
            }
            Check.due("thrown away", x.reset(), bytes);
            Check.due("again", x.reset(), 0);
        }
        Check.due("packets", x.count(0), 0);
        Check.due("behind it", x.feed(0, 2), 2);
        x.reset();
        Sender.send(x, Sender.header(1, 0x00, 0, 0, 0, 0, "abc"));
        Check.due("behind a packet", x.reset(), 0);
        Check.due("a packet is whole", x.look(0, 8, 0), 'a');
        x.feed(0, 8);
        x.reset();
        Sender.send(x, Sender.row(1, 1, "row"), Sender.end(1));
        Check.due("what is coming stays", x.look(1, 0, 0), 'r');
        Check.due("what was counted stays", x.count(0), 3);
        x.reset();
        Check.due("what is kept stays", x.shown(), 256);
        Check.finish();
    }
}
