/** Promise 5: the light goes on or off, and what flashes with it. */
public final class Promise05TickTest {
    private Promise05TickTest() {
    }

    public static void main(String[] args) {
        PageReceiver x = Sender.showing(2, 'a', 8, 'b', 9, 'c');
        for (int i = 0; i < 10; i++) {
            boolean on = i % 2 == 1;
            Check.due("tick " + i, x.tick(), on);
            Check.due("no flash " + i, x.look(2, 0, 0), 'a');
            Check.due("flash " + i, x.look(2, 2, 0), on ? 'b' : 32);
            Check.due("flash on " + i, x.look(2, 2, 3), 16);
            Check.due("flash off " + i, x.look(2, 4, 0), 'c');
        }
        PageReceiver y = new PageReceiver(1);
        y.tick();
        Sender.send(y, Sender.header(1, 0x00), Sender.row(1, 1, 8, 'a'), Sender.end(1));
        Sender.keys(y, 1, 0, 0, 14, 15);
        Check.due("nothing else turns the light", y.look(1, 1, 0), 32);
        y.reset();
        Check.due("on again", y.tick(), true);
        Check.finish();
    }
}
