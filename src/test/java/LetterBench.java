/** What the tests of letters share: the kinds of letters, and ways to bring rounds to where they are looked at. */
class LetterBench {
    static final int PREPARE = 0;
    static final int PROMISED = 1;
    static final int ACCEPT = 2;
    static final int ACCEPTED = 3;
    static final int EFFECT = 4;
    static final int DONE = 5;
    static final int ALL = -1;
    static final Check check = new Check();

    /** An object of which only one job isn't paused; every minute of it is due, now being minute 0. */
    static TickKeeper oneJob(int job) {
        TickKeeper x = new TickKeeper();
        for (int other = 0; other < 8; other++) {
            x.set(other, 4, other == job ? 0 : 1);
        }
        x.mask(job, 0, ALL, ALL);
        x.mask(job, 1, 0, ALL);
        return x;
    }

    /** The place of the first letter of a kind to someone; -1 if there is none. */
    static int find(TickKeeper x, int kind, int to) {
        for (int i = 0; i < x.letters(); i++) {
            if (x.letter(i, 0) == kind && x.letter(i, 2) == to) {
                return i;
            }
        }
        return -1;
    }

    static void give(TickKeeper x, int kind, int to) {
        int i = find(x, kind, to);
        check.is("17 deliver kind " + kind + " to " + to, x.deliver(i), kind);
    }

    static void loseAll(TickKeeper x) {
        for (int waiting = x.letters(); waiting > 0; waiting--) {
            x.lose(0);
        }
    }

    /** A round of scheduler s, with the help of another one, up to stage 2 (if it claims anything). */
    static void prepare(TickKeeper x, int s, int helper) {
        x.wake(s);
        give(x, PREPARE, helper);
        give(x, PROMISED, s);
    }

    /** A whole round up to DONE, which waits for all three. */
    static void effect(TickKeeper x, int s, int helper, int desk) {
        prepare(x, s, helper);
        give(x, ACCEPT, helper);
        give(x, ACCEPTED, s);
        give(x, EFFECT, desk);
    }

    static void isLetter(String name, TickKeeper x, int i, int... want) {
        for (int what = 0; what < 8; what++) {
            check.is("20 " + name + " " + what, x.letter(i, what), want[what]);
        }
    }

    static void isSeat(String name, TickKeeper x, int s, int job, int... want) {
        for (int what = 0; what < 8; what++) {
            check.is("21 " + name + " " + what, x.register(s, job, what), want[what]);
        }
    }
}
