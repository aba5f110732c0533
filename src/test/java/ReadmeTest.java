/** The example of README.md does what is said there. */
public final class ReadmeTest {
    public static void main(String[] args) {
        Check check = new Check();
        TickKeeper x = new TickKeeper();
        x.mask(0, 1, 0, 1 << 8);
        x.mask(0, 4, 0, 31);
        int first = x.due(0, 0);
        check.is("first", first, 3360);
        for (int job = 1; job < 8; job++) {
            x.set(job, 4, 1);
        }
        x.time(first);
        x.wake(0);
        while (x.letters() > 0) {
            x.deliver(0);
        }
        check.is("done", x.effect(0, 0, 0), 3360);
        check.is("once", x.effects(0), 1);
        check.end();
    }
}
