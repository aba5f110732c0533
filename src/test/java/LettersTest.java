/** Promises 13 to 23: schedulers, their letters, and the effects at the desks. */
public final class LettersTest extends LetterBench {
    private static final int[] WRONG = {-1, 3, 60, Integer.MIN_VALUE, Integer.MAX_VALUE};

    public static void main(String[] args) {
        wake();
        wakeWithNothingToDo();
        ballots();
        up();
        desk();
        lettersAndDeliver();
        toThoseThatAreDown();
        lose();
        twin();
        fullRow();
        wholeRound();
        promiseIsKept();
        promisedTooLate();
        claimedAgain();
        takenOver();
        ownIfTheSame();
        pausedOrNothingDue();
        waiting();
        waitingByLocalDays();
        acceptedTooLate();
        roundKeepsItsGuard();
        guardsAtTheDesk();
        done();
        fortyEffects();
        wrongQuestions();
        check.end();
    }

    private static void wake() {
        TickKeeper x = new TickKeeper();
        for (int s : WRONG) {
            check.is("13 no such scheduler", x.wake(s), -1);
        }
        check.is("13 nothing is sent", x.letters(), 0);
        check.is("13 all jobs", x.wake(1), 8);
        check.is("16 two letters each", x.letters(), 16);
        for (int job = 0; job < 8; job++) {
            isLetter("PREPARE", x, 2 * job, PREPARE, 1, 0, job, 2, -1, 0, 0);
            isLetter("PREPARE", x, 2 * job + 1, PREPARE, 1, 2, job, 2, -1, 0, 0);
            isSeat("stage 1", x, 1, job, 2, 0, -1, 0, -1, 1, 2, -1);
        }
        x.up(0, false);
        check.is("13 one that is down", x.wake(0), -1);
        check.is("13 sends nothing", x.letters(), 16);
        check.is("13 promises nothing", x.register(0, 0, 0), 0);
    }

    private static void wakeWithNothingToDo() {
        TickKeeper x = new TickKeeper();
        for (int job = 0; job < 8; job++) {
            x.set(job, 3, 0);
        }
        x.time(1);
        check.is("13 nothing is due", x.wake(0), 0);
        check.is("13 nothing is sent", x.letters(), 0);
        check.is("21 nothing is promised", x.register(0, 0, 0), 0);
        x.time(1440);
        check.is("13 all is due", x.wake(2), 8);
        x.time(1441);
        check.is("13 nothing is due again", x.wake(2), 0);
        check.is("21 the present round is there still", x.register(2, 0, 5), 1);
        x.set(3, 3, 1);
        check.is("13 one isn't late", x.wake(2), 1);
        check.is("21 its new round", x.register(2, 3, 6), 6);
        check.is("21 the others' old ones", x.register(2, 4, 6), 3);
    }

    private static void ballots() {
        TickKeeper x = oneJob(0);
        int[] wakes = {0, 0, 1, 1, 2, 0};
        int[] wants = {1, 4, 2, 5, 3, 7};
        for (int i = 0; i < wakes.length; i++) {
            x.wake(wakes[i]);
            check.is("21 ballot", x.register(wakes[i], 0, 6), wants[i]);
            check.is("21 promise", x.register(wakes[i], 0, 0), wants[i]);
        }
        // Scheduler 2 promises 7 to scheduler 0: its own next ballot lies above that.
        for (int i = 0; i < 5; i++) {
            give(x, PREPARE, 2);
        }
        check.is("21 promise", x.register(2, 0, 0), 7);
        x.wake(2);
        check.is("21 the least one above it", x.register(2, 0, 6), 9);
        loseAll(x);
        x.wake(2);
        give(x, PREPARE, 1);
        check.is("21 promise", x.register(1, 0, 0), 12);
        x.wake(1);
        check.is("21 the least one above it, of 2, 5, 8 ..", x.register(1, 0, 6), 14);
    }

    private static void up() {
        TickKeeper x = oneJob(3);
        for (int s : WRONG) {
            check.no("14 no such scheduler", x.up(s, true));
            check.no("14 no such scheduler", x.up(s, false));
        }
        check.no("14 it is up", x.up(2, true));
        effect(x, 2, 0, 1);
        give(x, DONE, 2);
        x.time(1);
        prepare(x, 2, 0);
        isSeat("before", x, 2, 3, 6, 6, 1, 2, 0, 2, 6, 1);
        check.yes("14 down", x.up(2, false));
        check.no("14 it is down", x.up(2, false));
        isSeat("what is kept for good", x, 2, 3, 6, 6, 1, 2, -1, 0, 0, -1);
        check.yes("14 up again", x.up(2, true));
        check.no("14 it is up again", x.up(2, true));
        isSeat("what was kept for good", x, 2, 3, 6, 6, 1, 2, -1, 0, 0, -1);
        give(x, ACCEPT, 0);
        give(x, ACCEPTED, 2);
        check.is("14 the round is gone", find(x, EFFECT, 1), -1);
        isSeat("another one is as it was", x, 0, 3, 6, 6, 1, 2, -1, 0, 0, -1);
    }

    private static void desk() {
        TickKeeper x = oneJob(0);
        int[] wrong = {-1, 2, Integer.MIN_VALUE, Integer.MAX_VALUE};
        for (int d : wrong) {
            check.no("15 no such desk", x.desk(d, true));
            check.no("15 no such desk", x.desk(d, false));
        }
        check.no("15 it is on", x.desk(0, true));
        check.no("15 it is on", x.desk(1, true));
        check.yes("15 off", x.desk(0, false));
        check.no("15 it is off", x.desk(0, false));
        check.no("15 the other one is on", x.desk(1, true));
        prepare(x, 0, 1);
        give(x, ACCEPT, 1);
        give(x, ACCEPTED, 0);
        x.twin(find(x, EFFECT, 0));
        int waiting = x.letters();
        give(x, EFFECT, 0);
        check.is("22 nothing came", x.effects(0), 0);
        check.is("16 nothing was sent", x.letters(), waiting - 1);
        check.yes("15 on", x.desk(0, true));
        give(x, EFFECT, 0);
        check.is("22 it came", x.effects(0), 1);
        check.yes("15 off", x.desk(0, false));
        check.is("22 kept for good", x.effects(0), 1);
        check.yes("15 desk 1 off", x.desk(1, false));
    }

    private static void lettersAndDeliver() {
        TickKeeper x = new TickKeeper();
        check.is("16 none", x.letters(), 0);
        check.is("17 none", x.deliver(0), -1);
        x.wake(0);
        check.is("17 below", x.deliver(-1), -1);
        check.is("17 beyond", x.deliver(16), -1);
        check.is("17 far below", x.deliver(Integer.MIN_VALUE), -1);
        check.is("17 far beyond", x.deliver(Integer.MAX_VALUE), -1);
        check.is("16 all wait", x.letters(), 16);
        check.is("17 one in the middle", x.deliver(5), PREPARE);
        check.is("16 one is gone, one is sent", x.letters(), 16);
        isLetter("the one before", x, 4, PREPARE, 0, 1, 2, 1, -1, 0, 0);
        isLetter("the one behind", x, 5, PREPARE, 0, 1, 3, 1, -1, 0, 0);
        isLetter("the answer", x, 15, PROMISED, 2, 0, 2, 1, -1, 0, 0);
        check.is("17 the answer", x.deliver(15), PROMISED);
        check.is("16 two more are sent", x.letters(), 17);
        isLetter("to the lower number", x, 15, ACCEPT, 0, 1, 2, 1, 0, 1, 0);
        isLetter("to the higher number", x, 16, ACCEPT, 0, 2, 2, 1, 0, 1, 0);
    }

    private static void toThoseThatAreDown() {
        TickKeeper x = oneJob(0);
        x.wake(0);
        x.up(1, false);
        check.is("17 its kind all the same", x.deliver(0), PREPARE);
        check.is("17 it is gone", x.letters(), 1);
        check.is("21 no promise", x.register(1, 0, 0), 0);
        x.up(1, true);
        check.is("17 it is up again, but the letter is gone", x.letters(), 1);
        give(x, PREPARE, 2);
        x.up(0, false);
        x.up(0, true);
        give(x, PROMISED, 0);
        check.is("17 there is no round any more", x.letters(), 0);
        isSeat("promise alone is left", x, 0, 0, 1, 0, -1, 0, -1, 0, 0, -1);
    }

    private static void lose() {
        TickKeeper x = new TickKeeper();
        check.no("18 none", x.lose(0));
        x.wake(2);
        check.no("18 below", x.lose(-1));
        check.no("18 beyond", x.lose(16));
        check.no("18 far beyond", x.lose(Integer.MAX_VALUE));
        check.no("18 far below", x.lose(Integer.MIN_VALUE));
        check.yes("18 the second", x.lose(1));
        check.is("16 one less", x.letters(), 15);
        isLetter("the first", x, 0, PREPARE, 2, 0, 0, 3, -1, 0, 0);
        isLetter("the third is the second now", x, 1, PREPARE, 2, 0, 1, 3, -1, 0, 0);
        check.is("21 it did not come", x.register(1, 0, 0), 0);
        check.yes("18 the last", x.lose(14));
        check.no("18 it is gone", x.lose(14));
    }

    private static void twin() {
        TickKeeper x = oneJob(5);
        check.no("19 none", x.twin(0));
        prepare(x, 1, 0);
        // PREPARE to 2, ACCEPT to 0 and to 2 wait.
        check.no("19 below", x.twin(-1));
        check.no("19 beyond", x.twin(3));
        check.no("19 far beyond", x.twin(Integer.MAX_VALUE));
        check.yes("19 an ACCEPT", x.twin(1));
        check.is("16 one more", x.letters(), 4);
        isLetter("the first", x, 1, ACCEPT, 1, 0, 5, 2, 0, 1, 0);
        isLetter("the other one behind all", x, 3, ACCEPT, 1, 0, 5, 2, 0, 1, 0);
        x.deliver(1);
        isLetter("is not touched", x, 2, ACCEPT, 1, 0, 5, 2, 0, 1, 0);
        x.deliver(2);
        isLetter("is answered too", x, 3, ACCEPTED, 0, 1, 5, 2, -1, 0, 0);
        loseAll(x);
        x.up(1, false);
        x.wake(0);
        give(x, PREPARE, 2);
        x.wake(2);
        give(x, PREPARE, 0);
        int i = find(x, PROMISED, 2);
        isLetter("PROMISED", x, i, PROMISED, 0, 2, 5, 6, 0, 1, 2);
        check.yes("19 a PROMISED", x.twin(i));
        isLetter("all of it is doubled", x, x.letters() - 1, PROMISED, 0, 2, 5, 6, 0, 1, 2);
        int waiting = x.letters();
        for (int k = waiting; k < 60; k++) {
            check.yes("19 up to 60", x.twin(0));
        }
        check.no("19 60 wait", x.twin(0));
        check.is("16 60", x.letters(), 60);
    }

    private static void fullRow() {
        TickKeeper x = new TickKeeper();
        x.wake(0);
        x.wake(1);
        x.wake(2);
        check.is("16 48", x.letters(), 48);
        check.is("13 all rounds begin", x.wake(0), 8);
        check.is("16 one more is lost", x.letters(), 60);
        isLetter("the last one that found room", x, 59, PREPARE, 0, 2, 5, 4, -1, 0, 0);
        check.is("21 a round without letters", x.register(0, 7, 6), 4);
        check.is("17 a letter makes room for its answer", x.deliver(33), PREPARE);
        check.is("16 60 still", x.letters(), 60);
        isLetter("the answer", x, 59, PROMISED, 1, 2, 0, 3, -1, 0, 0);
        TickKeeper y = oneJob(0);
        prepare(y, 0, 1);
        for (int waiting = y.letters(); waiting < 60; waiting++) {
            check.yes("19 more", y.twin(0));
        }
        int i = find(y, ACCEPT, 1);
        y.deliver(i);
        isLetter("ACCEPTED has the room", y, 59, ACCEPTED, 1, 0, 0, 1, -1, 0, 0);
        y.deliver(59);
        isLetter("EFFECT has the room", y, 59, EFFECT, 0, 0, 0, 0, 0, 1, 0);
        y.deliver(59);
        check.is("16 two of three are lost", y.letters(), 60);
        isLetter("DONE to the first", y, 59, DONE, 0, 0, 0, 0, 0, 0, 0);
    }

    private static void wholeRound() {
        TickKeeper x = oneJob(7);
        x.time(5);
        x.set(7, 3, 2);
        x.wake(2);
        isSeat("stage 1", x, 2, 7, 3, 0, -1, 0, -1, 1, 3, -1);
        give(x, PREPARE, 1);
        isSeat("promised", x, 1, 7, 3, 0, -1, 0, -1, 0, 0, -1);
        isLetter("PROMISED", x, find(x, PROMISED, 2), PROMISED, 1, 2, 7, 3, -1, 0, 0);
        give(x, PROMISED, 2);
        isSeat("stage 2", x, 2, 7, 3, 3, 3, 1, -1, 2, 3, 3);
        isLetter("ACCEPT", x, find(x, ACCEPT, 0), ACCEPT, 2, 0, 7, 3, 3, 1, 0);
        isLetter("ACCEPT", x, find(x, ACCEPT, 1), ACCEPT, 2, 1, 7, 3, 3, 1, 0);
        give(x, ACCEPT, 0);
        isSeat("accepted without a promise", x, 0, 7, 3, 3, 3, 1, -1, 0, 0, -1);
        isLetter("ACCEPTED", x, find(x, ACCEPTED, 2), ACCEPTED, 0, 2, 7, 3, -1, 0, 0);
        give(x, ACCEPTED, 2);
        isSeat("stage 3", x, 2, 7, 3, 3, 3, 1, -1, 3, 3, 3);
        isLetter("EFFECT", x, find(x, EFFECT, 1), EFFECT, 2, 1, 7, 0, 3, 1, 0);
        check.is("22 no effect before it comes", x.effects(7), 0);
        give(x, EFFECT, 1);
        check.is("22 one", x.effects(7), 1);
        check.is("23 moment", x.effect(7, 0, 0), 3);
        check.is("23 guard", x.effect(7, 0, 1), 1);
        int i = x.letters() - 3;
        for (int to = 0; to < 3; to++) {
            isLetter("DONE", x, i + to, DONE, 1, to, 7, 0, 3, 0, 0);
        }
        give(x, DONE, 0);
        isSeat("0 knows", x, 0, 7, 3, 3, 3, 1, 3, 0, 0, -1);
        give(x, DONE, 2);
        isSeat("2 knows, the round is over", x, 2, 7, 3, 3, 3, 1, 3, 0, 0, -1);
        isSeat("1 does not know", x, 1, 7, 3, 0, -1, 0, -1, 0, 0, -1);
        loseAll(x);
        effect(x, 2, 1, 1);
        check.is("23 the next moment", x.effect(7, 1, 0), 4);
        check.is("23 the next guard", x.effect(7, 1, 1), 2);
    }

    private static void promiseIsKept() {
        TickKeeper x = oneJob(0);
        x.wake(0);
        x.wake(1);
        x.wake(2);
        give(x, PREPARE, 2);
        check.is("21 3 is above 1", x.register(2, 0, 0), 3);
        check.is("20 no answer", find(x, PROMISED, 0), -1);
        loseAll(x);
        x.wake(0);
        x.twin(0);
        give(x, PREPARE, 1);
        give(x, PREPARE, 1);
        check.is("21 the same ballot twice", x.register(1, 0, 0), 4);
        give(x, PROMISED, 0);
        check.is("20 is answered twice", x.letter(find(x, PROMISED, 0), 4), 4);
        loseAll(x);
        prepare(x, 0, 1);
        x.up(0, false);
        x.wake(1);
        x.lose(find(x, PREPARE, 2));
        give(x, ACCEPT, 1);
        check.is("21 ACCEPT of a lower ballot is nothing", x.register(1, 0, 1), 0);
        check.is("20 and has no answer", find(x, ACCEPTED, 0), -1);
        give(x, ACCEPT, 2);
        check.is("21 2 had promised nothing above it", x.register(2, 0, 1), 7);
        check.is("21 it becomes the promise", x.register(2, 0, 0), 7);
    }

    private static void promisedTooLate() {
        TickKeeper x = oneJob(0);
        x.wake(0);
        give(x, PREPARE, 1);
        x.wake(0);
        give(x, PROMISED, 0);
        isSeat("of a round that is forgotten", x, 0, 0, 4, 0, -1, 0, -1, 1, 4, -1);
        loseAll(x);
        beginRoundThenPromiseAnother(x);
        // 0 has promised 8 to scheduler 1, so its own round of 7 is not its promise any more.
        give(x, PROMISED, 0);
        isSeat("a promise above its own ballot", x, 0, 0, 8, 0, -1, 0, -1, 1, 7, -1);
        loseAll(x);
        x.wake(0);
        give(x, PREPARE, 1);
        give(x, PREPARE, 2);
        give(x, PROMISED, 0);
        int waiting = x.letters();
        give(x, PROMISED, 0);
        check.is("17 the second PROMISED is nothing at stage 2", x.letters(), waiting - 1);
    }

    private static void beginRoundThenPromiseAnother(TickKeeper x) {
        x.wake(0);
        give(x, PREPARE, 2);
        give(x, PREPARE, 1);
        x.wake(1);
        give(x, PREPARE, 0);
        x.lose(find(x, PROMISED, 1));
    }

    private static void claimedAgain() {
        TickKeeper x = oneJob(0);
        x.time(10);
        prepare(x, 0, 1);
        check.is("21 claimed", x.register(0, 0, 7), 0);
        loseAll(x);
        x.set(0, 3, 0);
        x.except(0, 10);
        check.is("13 accepted above what it knows, though nothing is due", x.wake(0), 1);
        give(x, PREPARE, 2);
        give(x, PROMISED, 0);
        isSeat("claimed again with another guard", x, 0, 0, 4, 4, 0, 2, -1, 2, 4, 0);
        give(x, ACCEPT, 2);
        give(x, ACCEPTED, 0);
        give(x, EFFECT, 0);
        check.is("23 the guard", x.effect(0, 0, 1), 2);
        give(x, DONE, 0);
        check.is("13 nothing to do now", x.wake(0), 0);
        x.set(0, 4, 1);
        x.up(0, false);
        x.up(0, true);
        check.is("13 it forgot, but the job is paused", x.wake(0), 0);
        x.set(0, 4, 0);
        check.is("13 it forgot", x.wake(0), 1);
        loseAll(x);
        effect(x, 0, 1, 0);
        check.is("22 the moment is done once", x.effects(0), 1);
    }

    private static void takenOver() {
        TickKeeper x = oneJob(0);
        x.time(10);
        prepare(x, 0, 1);
        give(x, ACCEPT, 1);
        x.up(0, false);
        loseAll(x);
        prepare(x, 2, 1);
        isSeat("what 1 told is claimed", x, 2, 0, 3, 3, 0, 2, -1, 2, 3, 0);
        give(x, ACCEPT, 1);
        give(x, ACCEPTED, 2);
        give(x, EFFECT, 0);
        give(x, DONE, 2);
        give(x, DONE, 1);
        loseAll(x);
        prepare(x, 1, 2);
        isSeat("behind what is known, the next one", x, 1, 0, 5, 5, 1, 3, 0, 2, 5, 1);
    }

    private static void ownIfTheSame() {
        TickKeeper x = oneJob(0);
        x.time(10);
        prepare(x, 0, 1);
        give(x, ACCEPT, 1);
        give(x, ACCEPTED, 0);
        loseAll(x);
        prepare(x, 0, 1);
        isSeat("the same of both", x, 0, 0, 4, 4, 0, 2, -1, 2, 4, 0);
        loseAll(x);
        // 1 has accepted by ballot 1, 0 by ballot 4: its own one counts.
        prepare(x, 0, 1);
        check.is("21 its own guard and 1", x.register(0, 0, 3), 3);
        loseAll(x);
        prepare(x, 1, 0);
        check.is("21 the other one's guard and 1", x.register(1, 0, 3), 4);
    }

    private static void pausedOrNothingDue() {
        TickKeeper x = oneJob(0);
        x.wake(0);
        give(x, PREPARE, 1);
        x.set(0, 4, 1);
        give(x, PROMISED, 0);
        isSeat("paused in between", x, 0, 0, 1, 0, -1, 0, -1, 0, 0, -1);
        x.set(0, 4, 0);
        loseAll(x);
        x.wake(0);
        give(x, PREPARE, 2);
        x.except(0, 0);
        give(x, PROMISED, 0);
        isSeat("not due any more", x, 0, 0, 4, 0, -1, 0, -1, 0, 0, -1);
        check.is("16 nothing is sent", find(x, ACCEPT, 1), -1);
        x.time(1);
        loseAll(x);
        prepare(x, 0, 2);
        check.is("21 due again", x.register(0, 0, 7), 1);
        loseAll(x);
        x.wake(0);
        give(x, PREPARE, 1);
        x.set(0, 4, 1);
        give(x, PROMISED, 0);
        check.is("21 paused, in the other case too", x.register(0, 0, 5), 0);
        check.is("21 nothing new is accepted", x.register(0, 0, 1), 7);
    }

    private static void waiting() {
        TickKeeper x = oneJob(0);
        x.set(1, 4, 0);
        x.after(1, 0, true);
        x.time(1440);
        x.set(0, 3, 100000);
        x.set(1, 3, 0);
        x.set(1, 2, 2);
        x.mask(0, 0, 0, 1);
        x.mask(0, 1, 0, 1);
        prepareJob1(x);
        check.is("21 it knows no effect", x.register(0, 1, 5), 0);
        effectOfJob0(x, 0);
        prepareJob1(x);
        check.is("21 one of an earlier day", x.register(0, 1, 5), 0);
        effectOfJob0(x, 1440);
        prepareJob1(x);
        check.is("21 one of the same day", x.register(0, 1, 5), 2);
        loseAll(x);
        x.up(0, false);
        x.up(0, true);
        prepareJob1(x);
        check.is("21 claimed again, but it has to wait", x.register(0, 1, 5), 0);
        x.after(1, 0, false);
        prepareJob1(x);
        check.is("21 nothing to wait for", x.register(0, 1, 5), 2);
    }

    /** Job 1 alone, by scheduler 0. */
    private static void prepareJob1(TickKeeper x) {
        x.set(0, 4, 1);
        loseAll(x);
        prepare(x, 0, 1);
    }

    private static void effectOfJob0(TickKeeper x, int moment) {
        x.set(0, 4, 0);
        x.set(1, 4, 1);
        loseAll(x);
        effect(x, 0, 1, 0);
        give(x, DONE, 0);
        check.is("21 known", x.register(0, 0, 4), moment);
        x.set(1, 4, 0);
    }

    /** Job 0 is done at minute 0; job 1's moment, too, but in its zone it is another day. */
    private static void waitingByLocalDays() {
        int[] zonesOf0 = {0, 0, 0, 1, 2};
        int[] zonesOf1 = {0, 1, 2, 0, 0};
        int[] stages = {2, 2, 0, 0, 2};
        for (int i = 0; i < 5; i++) {
            TickKeeper x = oneJob(0);
            x.shift(1, 0, -1);
            x.shift(2, 0, 1);
            // At minute 1439 zone 0 has its first day still, zone 2 the second one.
            x.time(i == 3 ? 0 : 1439);
            x.set(0, 0, zonesOf0[i]);
            x.set(1, 0, zonesOf1[i]);
            x.set(0, 2, 2);
            x.set(1, 2, 2);
            x.mask(1, 0, ALL, ALL);
            x.mask(1, 1, 0, ALL);
            x.after(1, 0, true);
            effect(x, 0, 1, 0);
            give(x, DONE, 0);
            x.set(0, 4, 1);
            x.set(1, 4, 0);
            loseAll(x);
            prepare(x, 0, 1);
            check.is("21 local days " + i, x.register(0, 1, 5), stages[i]);
        }
    }

    private static void acceptedTooLate() {
        TickKeeper x = oneJob(0);
        prepare(x, 0, 1);
        give(x, ACCEPT, 1);
        give(x, ACCEPT, 2);
        give(x, ACCEPTED, 0);
        check.is("21 stage 3", x.register(0, 0, 5), 3);
        int waiting = x.letters();
        give(x, ACCEPTED, 0);
        check.is("17 the second ACCEPTED is nothing", x.letters(), waiting - 1);
        loseAll(x);
        prepare(x, 0, 1);
        give(x, ACCEPT, 1);
        x.wake(0);
        give(x, ACCEPTED, 0);
        check.is("21 of a round that is forgotten", x.register(0, 0, 5), 1);
        check.is("17 no EFFECT", find(x, EFFECT, 0), -1);
        loseAll(x);
        prepare(x, 0, 1);
        give(x, ACCEPT, 1);
        x.wake(1);
        give(x, PREPARE, 0);
        give(x, ACCEPTED, 0);
        check.is("21 a promise in between does not matter", x.register(0, 0, 5), 3);
    }

    /** What another scheduler makes it accept in between is not what its own round claims. */
    private static void roundKeepsItsGuard() {
        TickKeeper x = oneJob(0);
        x.time(3);
        prepare(x, 0, 1);
        give(x, ACCEPT, 1);
        x.lose(find(x, PREPARE, 2));
        prepare(x, 1, 2);
        give(x, ACCEPT, 0);
        isSeat("accepted from 1", x, 0, 0, 2, 2, 0, 2, -1, 2, 1, 0);
        give(x, ACCEPTED, 0);
        isLetter("its own claim", x, find(x, EFFECT, 0), EFFECT, 0, 0, 0, 0, 0, 1, 0);
        give(x, EFFECT, 0);
        check.is("23 its guard", x.effect(0, 0, 1), 1);
    }

    private static void guardsAtTheDesk() {
        TickKeeper x = oneJob(1);
        x.time(3);
        // Guard 1 is late: guard 2 of the same moment comes before it.
        prepare(x, 0, 1);
        give(x, ACCEPT, 1);
        give(x, ACCEPTED, 0);
        prepare(x, 0, 1);
        give(x, ACCEPT, 1);
        give(x, ACCEPTED, 0);
        check.is("20 guard 1", x.letter(find(x, EFFECT, 1), 6), 1);
        x.twin(find(x, EFFECT, 1));
        x.lose(find(x, EFFECT, 1));
        check.is("20 guard 2", x.letter(find(x, EFFECT, 1), 6), 2);
        x.twin(find(x, EFFECT, 1));
        give(x, EFFECT, 1);
        check.is("23 guard 2", x.effect(1, 0, 1), 2);
        give(x, EFFECT, 1);
        give(x, EFFECT, 1);
        check.is("22 guard 1 and the twin add nothing", x.effects(1), 1);
        int told = 0;
        for (int i = 0; i < x.letters(); i++) {
            told += x.letter(i, 0) == DONE && x.letter(i, 5) == 0 ? 1 : 0;
        }
        check.is("17 each of the three is answered", told, 9);
        greatestGuardOfWhatIsNotAdded();
    }

    /** A guard counts as come even if its moment adds nothing. */
    private static void greatestGuardOfWhatIsNotAdded() {
        TickKeeper x = oneJob(1);
        x.time(3);
        effect(x, 0, 1, 1);
        loseAll(x);
        // Nobody knows of it, so moment 0 is claimed again: guard 2 comes, nothing is added.
        effect(x, 0, 1, 1);
        check.is("22 moment 0 once", x.effects(1), 1);
        give(x, DONE, 1);
        loseAll(x);
        x.up(0, false);
        // 2 has accepted nothing: 1 tells guard 2, so the next one is 3.
        prepare(x, 1, 2);
        isSeat("the next moment", x, 1, 1, 5, 5, 1, 3, 0, 2, 5, 1);
        give(x, ACCEPT, 2);
        give(x, ACCEPTED, 1);
        give(x, EFFECT, 1);
        check.is("23 moment 1", x.effect(1, 1, 0), 1);
        check.is("23 guard 3", x.effect(1, 1, 1), 3);
    }

    private static void done() {
        TickKeeper x = oneJob(0);
        x.time(1);
        effect(x, 0, 1, 0);
        check.is("21 stage 3 before DONE comes", x.register(0, 0, 5), 3);
        x.twin(find(x, DONE, 0));
        x.twin(find(x, DONE, 1));
        give(x, DONE, 0);
        give(x, DONE, 1);
        check.is("21 known", x.register(0, 0, 4), 0);
        x.lose(find(x, DONE, 2));
        x.wake(0);
        give(x, PREPARE, 1);
        give(x, PROMISED, 0);
        give(x, DONE, 0);
        isSeat("an old DONE ends no round at stage 2", x, 0, 0, 4, 4, 1, 2, 0, 2, 4, 1);
        x.twin(find(x, ACCEPT, 1));
        give(x, ACCEPT, 1);
        // ACCEPT of ballot 1 to scheduler 2 waits still; scheduler 1's comes from ballot 4.
        give(x, ACCEPTED, 0);
        give(x, EFFECT, 0);
        check.is("21 stage 3", x.register(0, 0, 5), 3);
        give(x, DONE, 1);
        check.is("21 the old one first: known still", x.register(1, 0, 4), 0);
        give(x, DONE, 1);
        check.is("21 the new one", x.register(1, 0, 4), 1);
        give(x, DONE, 0);
        check.is("21 the round is over", x.register(0, 0, 5), 0);
        doneOutOfOrder();
    }

    private static void doneOutOfOrder() {
        TickKeeper x = oneJob(0);
        x.time(1);
        effect(x, 0, 1, 0);
        give(x, DONE, 0);
        effect(x, 0, 1, 0);
        x.deliver(lastTo(x, 2));
        check.is("21 the greater one first", x.register(2, 0, 4), 1);
        give(x, DONE, 2);
        check.is("21 the lesser one changes nothing", x.register(2, 0, 4), 1);
        // A round at stage 3 whose moment is above what comes goes on.
        TickKeeper y = oneJob(0);
        y.time(1);
        effect(y, 0, 1, 0);
        y.twin(find(y, DONE, 0));
        give(y, DONE, 0);
        prepare(y, 0, 1);
        y.lose(find(y, ACCEPT, 2));
        give(y, ACCEPT, 1);
        give(y, ACCEPTED, 0);
        give(y, DONE, 0);
        isSeat("not over by an older one", y, 0, 0, 4, 4, 1, 2, 0, 3, 4, 1);
    }

    private static int lastTo(TickKeeper x, int to) {
        for (int i = x.letters() - 1; i >= 0; i--) {
            if (x.letter(i, 0) == DONE && x.letter(i, 2) == to) {
                return i;
            }
        }
        return -1;
    }

    private static void fortyEffects() {
        TickKeeper x = new TickKeeper();
        int calls = 11;
        for (int job = 1; job < 8; job++) {
            x.set(job, 4, 1);
        }
        x.mask(0, 0, ALL, ALL);
        x.mask(0, 1, 0, ALL);
        x.time(1000);
        // By place: PREPARE to 1, PROMISED, ACCEPT to 1, ACCEPTED, EFFECT, DONE; and 4 letters are lost.
        int[] places = {0, 1, 1, 2, 2, 2};
        for (int n = 1; n <= 41; n++) {
            x.wake(0);
            for (int place : places) {
                x.deliver(place);
            }
            for (int i = 0; i < 4; i++) {
                x.lose(0);
            }
            calls += 11;
        }
        check.yes("the object is not used up: " + calls, calls <= 490);
        check.is("16 all are gone", x.letters(), 0);
        check.is("22 no more than 40", x.effects(0), 40);
        check.is("23 the last one", x.effect(0, 39, 0), 39);
        check.is("23 the last guard", x.effect(0, 39, 1), 40);
        check.is("23 no more", x.effect(0, 40, 0), -1);
        isSeat("the last round does not end", x, 0, 0, 121, 121, 40, 41, 39, 3, 121, 40);
    }

    private static void wrongQuestions() {
        TickKeeper x = oneJob(0);
        effect(x, 0, 1, 0);
        int last = x.letters() - 1;
        int[] wrong = {-1, 8, Integer.MIN_VALUE, Integer.MAX_VALUE};
        for (int w : wrong) {
            check.is("20 what " + w, x.letter(0, w), -1);
            check.is("20 letter " + w, x.letter(w == 8 ? last + 1 : w, 0), -1);
            check.is("21 what " + w, x.register(0, 0, w), -1);
            check.is("21 job " + w, x.register(0, w, 0), -1);
            check.is("21 scheduler " + w, x.register(w == 8 ? 3 : w, 0, 0), -1);
            check.is("22 job " + w, x.effects(w), -1);
            check.is("23 job " + w, x.effect(w, 0, 0), -1);
            check.is("23 effect " + w, x.effect(0, w == 8 ? 1 : w, 0), -1);
            check.is("23 what " + w, x.effect(0, 0, w == 8 ? 2 : w), -1);
        }
        check.is("23 moment", x.effect(0, 0, 0), 0);
        check.is("23 guard", x.effect(0, 0, 1), 1);
        check.is("22 another job", x.effects(2), 0);
        check.is("23 another job", x.effect(2, 0, 0), -1);
    }
}
