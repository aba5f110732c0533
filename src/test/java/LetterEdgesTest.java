/** The edges of rounds, letters and effects (promises 7, 9 and 13 to 23, and the Terms that they rest on). */
public final class LetterEdgesTest extends LetterBench {
    private static final int LOW = Integer.MIN_VALUE;
    private static final int HIGH = Integer.MAX_VALUE;
    private static final int[] NO_SCHEDULER = {-1, 3, LOW, HIGH};
    private static final int[] NO_JOB = {-1, 8, LOW, HIGH};
    private static final int[] NO_WHAT = {-1, 8, LOW, HIGH};

    public static void main(String[] args) {
        nextIsBehind();
        nextIsNotAboveNow();
        nextAtAShift();
        nextWithAll();
        nextWithNewest();
        newestOfTwo();
        nextWithNone();
        latenessAtItsEnds();
        modes();
        pausedOrNot();
        schedulersAtFirst();
        schedulersThereAre();
        wokenDownOrUp();
        wokenForWhatItAccepted();
        wokenByNumber();
        forgottenRounds();
        ballots();
        roomFor60();
        roomForAnswers();
        roomForTwins();
        lettersThereAre();
        lettersToOneThatIsDown();
        effectToADeskThatIsOff();
        downKeepsForGood();
        prepareAndThePromise();
        promisedOfAnotherRound();
        promisedAtAnotherStage();
        promisedAndItsPromise();
        lastOneOfTwo();
        claimedOrNext();
        waitingForNothingKnown();
        waitingBeforeTheFirstDay();
        waitingByDays();
        waitingForSeveral();
        waitingWithWhatIsClaimedAgain();
        acceptAndThePromise();
        acceptedOfAnotherRound();
        acceptedOfAnOldRound();
        desksOfJobs();
        effectOnceMore();
        fewerThan40();
        doneTellsMoreOrLess();
        doneAndTheStages();
        whatLettersTell();
        registers();
        effectsThereAre();
        check.end();
    }

    /** Job 0 alone, due each midnight, at a time. */
    private static TickKeeper midnights(int time, int mode, int lateness) {
        TickKeeper x = oneJob(0);
        x.mask(0, 0, 0, 1);
        x.mask(0, 1, 0, 1);
        x.time(time);
        check.yes("mode " + mode, x.set(0, 2, mode));
        check.yes("lateness " + lateness, x.set(0, 3, lateness));
        return x;
    }

    /** What scheduler 0 claims with the help of 1; -1 if it claims nothing. */
    private static int claimed(TickKeeper x) {
        loseAll(x);
        if (x.wake(0) == 0) {
            return -1;
        }
        give(x, PREPARE, 1);
        give(x, PROMISED, 0);
        int moment = x.register(0, 0, 7);
        loseAll(x);
        return moment;
    }

    /** Scheduler 0 does job 0 once, and scheduler 0 knows of it. */
    private static void doOnce(TickKeeper x) {
        effect(x, 0, 1, 0);
        give(x, DONE, 0);
        loseAll(x);
    }

    private static void fill(TickKeeper x, int count) {
        for (int waiting = x.letters(); waiting < count; waiting++) {
            check.yes("filled up to " + count, x.twin(0));
        }
        check.is("so many wait", x.letters(), count);
    }

    // ---- NEXT

    private static void nextIsBehind() {
        check.of("The NEXT moment of a job behind a moment x .. is of the due minutes above x");
        for (int mode = 0; mode < 3; mode++) {
            TickKeeper x = midnights(1440, mode, 0);
            doOnce(x);
            check.is("done", x.effect(0, 0, 0), 1440);
            check.is("x itself is not behind x, mode " + mode, x.wake(0), 0);
            x.time(1441);
            x.mask(0, 0, 0, 3);
            check.is("one behind it", claimed(x), 1441);
        }
    }

    private static void nextIsNotAboveNow() {
        check.of("and not above t");
        for (int mode = 0; mode < 3; mode++) {
            TickKeeper x = midnights(1439, mode, 0);
            check.is("due in a minute, mode " + mode, x.wake(0), 0);
            x.time(1440);
            check.is("due now, mode " + mode, claimed(x), 1440);
        }
    }

    /** What a shift skips is due at its minute, so it is no NEXT moment before it. */
    private static void nextAtAShift() {
        check.of("and not above t: at a shift");
        for (int mode = 0; mode < 3; mode++) {
            TickKeeper x = midnights(1379, mode, 0);
            x.shift(0, 1380, 120);
            check.is("midnight will be skipped in a minute, mode " + mode, x.wake(0), 0);
            x.time(1380);
            check.is("it is skipped now, mode " + mode, claimed(x), 1380);
        }
        TickKeeper late = midnights(1381, 0, 1);
        late.shift(0, 1380, 120);
        check.is("a minute late", claimed(late), 1380);
        TickKeeper tooLate = midnights(1382, 0, 1);
        tooLate.shift(0, 1380, 120);
        check.is("two minutes late", tooLate.wake(0), 0);
    }

    private static void nextWithAll() {
        check.of("with ALL the first one that isn't below t - LATENESS");
        check.is("at t - LATENESS", claimed(midnights(5000, 0, 3560)), 1440);
        check.is("one below it: the next one", claimed(midnights(5000, 0, 3559)), 2880);
        check.is("the last one at t - LATENESS", claimed(midnights(5000, 0, 680)), 4320);
        check.is("the last one below it", midnights(5000, 0, 679).wake(0), 0);
        check.is("0 at t - LATENESS", claimed(midnights(1000, 0, 1000)), 0);
        check.is("0 below it", midnights(1000, 0, 999).wake(0), 0);
        check.is("t - LATENESS below 0", claimed(midnights(1000, 0, 1001)), 0);
        TickKeeper x = midnights(5000, 0, 5000);
        for (int moment = 0; moment < 5000; moment += 1440) {
            check.is("one after the other", claimed(x), moment);
            doOnce(x);
        }
        check.is("no more", x.wake(0), 0);
    }

    private static void nextWithNewest() {
        check.of("with NEWEST the last one if it isn't");
        check.is("the last of many", claimed(midnights(5000, 1, 5000)), 4320);
        check.is("at t - LATENESS", claimed(midnights(5000, 1, 680)), 4320);
        check.is("below it", midnights(5000, 1, 679).wake(0), 0);
        check.is("t itself", claimed(midnights(4320, 1, 0)), 4320);
        check.is("a minute late", midnights(4321, 1, 0).wake(0), 0);
        check.is("the only one", claimed(midnights(1439, 1, 100000)), 0);
        TickKeeper x = midnights(5000, 1, 5000);
        doOnce(x);
        check.is("those before it are not made up for", x.wake(0), 0);
        x.time(8000);
        check.is("the last one again", claimed(x), 7200);
        TickKeeper y = midnights(2000, 1, 100000);
        y.except(0, 1440);
        check.is("an exception is not the last one", claimed(y), 0);
    }

    /** Two minutes of the first hour are due, wherever the second one lies. */
    private static void newestOfTwo() {
        check.of("with NEWEST the last one, not above t");
        for (int second = 1; second < 30; second++) {
            for (int time = second - 1; time < 60; time += time < second + 1 ? 1 : 9) {
                TickKeeper x = midnights(time, 1, 60);
                x.mask(0, 0, 0, 1 | 1 << second);
                check.is("minutes 0 and " + second + " at " + time, claimed(x), time < second ? 0 : second);
            }
        }
    }

    private static void nextWithNone() {
        check.of("with NONE t if it is one");
        check.is("t", claimed(midnights(1440, 2, 0)), 1440);
        check.is("a minute behind", midnights(1441, 2, 100000).wake(0), 0);
        check.is("a minute before", midnights(1439, 2, 100000).wake(0), 0);
        check.is("the first minute of all", claimed(midnights(0, 2, 0)), 0);
        TickKeeper x = midnights(1440, 2, 0);
        x.except(0, 1440);
        check.is("an exception", x.wake(0), 0);
    }

    private static void latenessAtItsEnds() {
        check.of("LATENESS 0 .. 100000 (1440)");
        int[] wrong = {-1, 100001, LOW, HIGH};
        for (int value : wrong) {
            TickKeeper x = midnights(5000, 0, 680);
            check.no("lateness " + value, x.set(0, 3, value));
            check.is("680 still", claimed(x), 4320);
        }
        check.is("the greatest: at t - 100000", claimed(midnights(100000, 0, 100000)), 0);
        check.is("the greatest: one below", claimed(midnights(100001, 0, 100000)), 1440);
        check.is("the least: t", claimed(midnights(1440, 0, 0)), 1440);
        check.is("the least: a minute late", midnights(1441, 0, 0).wake(0), 0);
        TickKeeper first = new TickKeeper();
        first.time(4320);
        check.is("at first, at t - 1440", claimedOf(first, 5), 2880);
        TickKeeper second = new TickKeeper();
        second.time(4321);
        check.is("at first, one below", claimedOf(second, 5), 4320);
    }

    private static int claimedOf(TickKeeper x, int job) {
        x.wake(0);
        x.deliver(2 * job);
        x.deliver(x.letters() - 1);
        return x.register(0, job, 7);
    }

    private static void modes() {
        check.of("MODES: 0 ALL (at first), 1 NEWEST, 2 NONE");
        int[] wrong = {-1, 3, LOW, HIGH};
        int[] claims = {0, 4320, -1};
        for (int mode = 0; mode < 3; mode++) {
            TickKeeper x = midnights(5000, mode, 5000);
            for (int value : wrong) {
                check.no("mode " + value, x.set(0, 2, value));
            }
            check.is("mode " + mode + " still", claimed(x), claims[mode]);
        }
        TickKeeper first = new TickKeeper();
        first.time(1445);
        check.is("ALL at first: the first one that isn't late", claimedOf(first, 3), 1440);
        TickKeeper second = new TickKeeper();
        second.time(1445);
        second.set(4, 3, 1445);
        check.is("ALL at first: the first one of two", claimedOf(second, 4), 0);
    }

    private static void pausedOrNot() {
        check.of("4 whether it is paused (not 0)");
        int[] values = {1, -1, 2, LOW, HIGH};
        for (int value : values) {
            TickKeeper x = new TickKeeper();
            check.is("not at first", x.wake(0), 8);
            check.yes("value " + value, x.set(6, 4, value));
            check.is("paused by " + value, x.wake(0), 7);
            check.is("its old round is there still", x.register(0, 6, 6), 1);
            check.yes("value 0", x.set(6, 4, 0));
            check.is("not paused", x.wake(0), 8);
        }
    }

    // ---- schedulers

    private static void schedulersAtFirst() {
        check.of("up at first; PROMISE (0 at first), ACCEPTED (0, - 1, 0 at first), what it KNOWS (- 1 at first)");
        TickKeeper x = new TickKeeper();
        for (int s = 0; s < 3; s++) {
            check.no("it is up", x.up(s, true));
            for (int job = 0; job < 8; job++) {
                isSeat("at first", x, s, job, 0, 0, -1, 0, -1, 0, 0, -1);
            }
        }
        check.is("no letters", x.letters(), 0);
        check.is("letter 0", x.letter(0, 0), -1);
    }

    private static void schedulersThereAre() {
        check.of("SCHEDULERS 0 .. 2: NONE (false) if there is none such");
        for (int s : NO_SCHEDULER) {
            TickKeeper x = new TickKeeper();
            check.is("wake " + s, x.wake(s), -1);
            check.no("up " + s, x.up(s, true));
            check.no("down " + s, x.up(s, false));
            check.is("register of " + s, x.register(s, 0, 0), -1);
            check.is("nothing is sent", x.letters(), 0);
            schedulersAreUp(x);
        }
    }

    private static void schedulersAreUp(TickKeeper x) {
        for (int s = 0; s < 3; s++) {
            check.is("each is up and promised nothing", x.register(s, 0, 0), 0);
            check.is("each begins rounds", x.wake(s), 8);
        }
    }

    private static void wokenDownOrUp() {
        check.of("NONE if .. it is down; false if .. it is so");
        for (int s = 0; s < 3; s++) {
            TickKeeper x = new TickKeeper();
            check.no("up: it is so", x.up(s, true));
            check.yes("down", x.up(s, false));
            check.no("down: it is so", x.up(s, false));
            check.is("woken", x.wake(s), -1);
            check.is("nothing is sent", x.letters(), 0);
            check.is("nothing is promised", x.register(s, 0, 0), 0);
            check.yes("up", x.up(s, true));
            check.no("up: it is so again", x.up(s, true));
            check.is("woken", x.wake(s), 8);
            check.is("another one is up", x.wake((s + 1) % 3), 8);
        }
    }

    private static void wokenForWhatItAccepted() {
        check.of("of which what it accepted has a moment above what it knows, or that has a NEXT moment (now)");
        TickKeeper x = midnights(1440, 0, 0);
        effect(x, 0, 1, 0);
        x.time(1441);
        check.is("accepted above what it knows, nothing is due", x.wake(0), 1);
        give(x, DONE, 0);
        check.is("accepted is what it knows", x.wake(0), 0);
        check.is("2 has accepted nothing and knows nothing", x.wake(2), 0);
        give(x, DONE, 2);
        isSeat("2 knows more than it accepted", x, 2, 0, 0, 0, -1, 0, 1440, 0, 0, -1);
        check.is("accepted below what it knows, nothing is due", x.wake(2), 0);
        x.set(0, 3, 1);
        check.is("2 has a NEXT moment behind what it accepted, though it knows of it", x.wake(2), 1);
        check.is("1 has accepted, but does not know", x.wake(1), 1);
        x.set(0, 4, 1);
        check.is("paused, 1", x.wake(1), 0);
        check.is("paused, 2", x.wake(2), 0);
    }

    private static void wokenByNumber() {
        check.of("a scheduler goes through the jobs by number .. PREPARE is sent to both others, the lower number first");
        int[][] others = {{1, 2}, {0, 2}, {0, 1}};
        for (int s = 0; s < 3; s++) {
            TickKeeper x = new TickKeeper();
            x.set(0, 4, 1);
            x.set(4, 4, 1);
            check.is("rounds", x.wake(s), 6);
            int[] jobs = {1, 2, 3, 5, 6, 7};
            for (int i = 0; i < 12; i++) {
                isLetter("letter " + i, x, i, PREPARE, s, others[s][i % 2], jobs[i / 2], s + 1, -1, 0, 0);
            }
            check.is("no round of the paused first", x.register(s, 0, 5), 0);
        }
    }

    private static void forgottenRounds() {
        check.of("gets a new round (a present one is forgotten)");
        TickKeeper x = oneJob(0);
        x.wake(0);
        x.wake(0);
        isSeat("one of stage 1", x, 0, 0, 4, 0, -1, 0, -1, 1, 4, -1);
        loseAll(x);
        prepare(x, 0, 1);
        check.is("stage 2", x.register(0, 0, 5), 2);
        x.wake(0);
        isSeat("one of stage 2", x, 0, 0, 10, 7, 0, 1, -1, 1, 10, -1);
        loseAll(x);
        effect(x, 0, 1, 0);
        check.is("stage 3", x.register(0, 0, 5), 3);
        x.wake(0);
        isSeat("one of stage 3", x, 0, 0, 16, 13, 0, 2, -1, 1, 16, -1);
    }

    private static void ballots() {
        check.of("BALLOTS of scheduler s are s + 1, s + 4, s + 7 ..: the least one of s above its promise");
        for (int s = 0; s < 3; s++) {
            int ballot = s + 1;
            for (int promise = 0; promise <= 12; promise++) {
                if (ballot <= promise) {
                    ballot += 3;
                }
                TickKeeper x = promised(s, promise);
                check.is("promise", x.register(s, 0, 0), promise);
                x.wake(s);
                isSeat(s + " above " + promise, x, s, 0, ballot, 0, -1, 0, -1, 1, ballot, -1);
            }
        }
    }

    /** An object in which scheduler s has promised a ballot of whomever it is. */
    private static TickKeeper promised(int s, int promise) {
        TickKeeper x = oneJob(0);
        int owner = (promise + 2) % 3;
        while (promise > 0 && x.register(owner, 0, 0) < promise) {
            loseAll(x);
            x.wake(owner);
        }
        if (promise > 0 && owner != s) {
            give(x, PREPARE, s);
        }
        loseAll(x);
        return x;
    }

    // ---- the row of letters

    private static void roomFor60() {
        check.of("LETTERS wait in a row, at most 60 (one more is lost)");
        int[] before = {58, 59, 60};
        for (int count : before) {
            TickKeeper x = oneJob(3);
            x.wake(2);
            fill(x, count);
            check.is("a round begins all the same", x.wake(1), 1);
            check.is("60 at most", x.letters(), 60);
            isSeat("its round", x, 1, 3, 2, 0, -1, 0, -1, 1, 2, -1);
            for (int i = 58; i < 60; i++) {
                boolean isNew = i >= count;
                check.is("letter " + i + " is from", x.letter(i, 1), isNew ? 1 : 2);
                check.is("letter " + i + " is to", x.letter(i, 2), isNew ? 2 * (i - count) : 0);
            }
            check.is("letter 60", x.letter(60, 0), -1);
        }
    }

    private static void roomForAnswers() {
        check.of("at most 60 (one more is lost): answers");
        for (int count = 58; count <= 60; count++) {
            TickKeeper x = oneJob(0);
            x.wake(0);
            give(x, PREPARE, 1);
            fill(x, count);
            give(x, PROMISED, 0);
            check.is("ACCEPT to both, or to one", x.letters(), Math.min(60, count + 1));
            check.is("stage 2 all the same", x.register(0, 0, 5), 2);
            isKindTo("ACCEPT to the lower number", x, count - 1, ACCEPT, 1);
            isKindTo("ACCEPT to the higher number", x, count, ACCEPT, 2);
        }
        for (int count = 57; count <= 60; count++) {
            TickKeeper x = oneJob(0);
            prepare(x, 0, 1);
            give(x, ACCEPT, 1);
            give(x, ACCEPTED, 0);
            fill(x, count);
            give(x, EFFECT, 0);
            check.is("the effect is added all the same", x.effects(0), 1);
            for (int s = 0; s < 3; s++) {
                isKindTo("DONE to " + s, x, count - 1 + s, DONE, s);
            }
        }
    }

    /** A letter stands in this place of the row; or none, if there is no such place. */
    private static void isKindTo(String name, TickKeeper x, int place, int kind, int to) {
        check.is(name + ", kind", x.letter(place, 0), place < 60 ? kind : -1);
        check.is(name + ", to whom", x.letter(place, 2), place < 60 ? to : -1);
    }

    private static void roomForTwins() {
        check.of("twin: false if .. 60 wait");
        TickKeeper x = new TickKeeper();
        x.wake(0);
        fill(x, 59);
        check.yes("the 60th", x.twin(15));
        isLetter("it waits behind all", x, 59, PREPARE, 0, 2, 7, 1, -1, 0, 0);
        for (int i = 0; i < 59; i++) {
            check.no("60 wait", x.twin(i));
            check.is("the last one is as it was", x.letter(59, 3), 7);
        }
        check.no("60 wait", x.twin(59));
        check.is("60 still", x.letters(), 60);
        x.lose(0);
        check.yes("there is room again", x.twin(0));
    }

    private static void lettersThereAre() {
        check.of("NONE (false) if there is none");
        int[] counts = {0, 1, 2, 16, 59, 60};
        for (int count : counts) {
            TickKeeper x = count < 16 ? oneJob(0) : new TickKeeper();
            if (count > 0) {
                x.wake(0);
            }
            if (count == 1) {
                x.lose(0);
            } else if (count > 16) {
                fill(x, count);
            }
            check.is("letters", x.letters(), count);
            int[] wrong = {-1, count, count + 1, 60, LOW, HIGH};
            for (int i : wrong) {
                check.is("deliver " + i, x.deliver(i), -1);
                check.no("lose " + i, x.lose(i));
                check.no("twin " + i, x.twin(i));
                check.is("letter " + i, x.letter(i, 0), -1);
            }
            check.is("as many letters", x.letters(), count);
            check.is("nothing has come", x.register(1, 0, 0) + x.register(2, 0, 0), 0);
            if (count > 0) {
                check.is("the last one", x.letter(count - 1, 0), PREPARE);
                check.is("the last one comes", x.deliver(count - 1), PREPARE);
                check.is("the last one is its answer now", x.letter(count - 1, 0), PROMISED);
                check.yes("the last one is lost", x.lose(count - 1));
                check.is("one less", x.letters(), count - 1);
            }
        }
    }

    // ---- down or off

    private static void lettersToOneThatIsDown() {
        check.of("what comes to one that is down .. is nothing");
        int[] kinds = {PREPARE, PROMISED, ACCEPT, ACCEPTED, DONE};
        for (int kind : kinds) {
            TickKeeper x = oneJob(0);
            int to = kind == PREPARE || kind == ACCEPT ? 1 : 0;
            bringUpTo(x, kind);
            check.yes("down", x.up(to, false));
            int[] kept = new int[4];
            for (int what = 0; what < 4; what++) {
                kept[what] = x.register(to, 0, what);
            }
            int waiting = x.letters();
            check.is("its kind all the same", x.deliver(find(x, kind, to)), kind);
            check.is("it is gone, and nothing is sent, kind " + kind, x.letters(), waiting - 1);
            isSeat("as it was, kind " + kind, x, to, 0, kept[0], kept[1], kept[2], kept[3], -1, 0, 0, -1);
            check.yes("up", x.up(to, true));
            isSeat("as it was, up again, kind " + kind, x, to, 0, kept[0], kept[1], kept[2], kept[3], -1, 0, 0, -1);
        }
    }

    /** A round of scheduler 0 with scheduler 1, up to where a letter of this kind waits. */
    private static void bringUpTo(TickKeeper x, int kind) {
        int[] to = {1, 0, 1, 0, 0};
        x.wake(0);
        for (int before = PREPARE; before < kind; before++) {
            give(x, before, to[before]);
        }
    }

    private static void effectToADeskThatIsOff() {
        check.of("what comes to one that is .. off is nothing");
        int[] wrong = {-1, 2, LOW, HIGH};
        for (int d = 0; d < 2; d++) {
            TickKeeper x = oneJob(d);
            for (int none : wrong) {
                check.no("desk " + none + " on", x.desk(none, true));
                check.no("desk " + none + " off", x.desk(none, false));
            }
            bringUpTo(x, EFFECT);
            x.twin(find(x, EFFECT, d));
            check.no("on: it is so", x.desk(d, true));
            check.yes("off", x.desk(d, false));
            check.no("off: it is so", x.desk(d, false));
            check.no("the other one is on", x.desk(1 - d, true));
            int waiting = x.letters();
            give(x, EFFECT, d);
            check.is("nothing is added", x.effects(d), 0);
            check.is("nothing is sent", x.letters(), waiting - 1);
            check.yes("on", x.desk(d, true));
            give(x, EFFECT, d);
            check.is("its guard had not come before", x.effects(d), 1);
            check.yes("off", x.desk(d, false));
            check.is("kept for good: moment", x.effect(d, 0, 0), 0);
            check.is("kept for good: guard", x.effect(d, 0, 1), 1);
        }
    }

    private static void downKeepsForGood() {
        check.of("A scheduler goes down (all but what it keeps for good is gone)");
        int[] kinds = {PREPARE, ACCEPT, EFFECT};
        int[] accepted = {0, 4, 4};
        for (int i = 0; i < 3; i++) {
            TickKeeper x = oneJob(0);
            x.time(1);
            x.wake(0);
            loseAll(x);
            bringUpTo(x, kinds[i]);
            check.is("stage", x.register(0, 0, 5), i + 1);
            x.up(0, false);
            isSeat("down at stage " + (i + 1), x, 0, 0, 4, accepted[i], i == 0 ? -1 : 0, i == 0 ? 0 : 1, -1, 0, 0, -1);
            x.up(0, true);
            isSeat("up from stage " + (i + 1), x, 0, 0, 4, accepted[i], i == 0 ? -1 : 0, i == 0 ? 0 : 1, -1, 0, 0, -1);
        }
        TickKeeper x = oneJob(0);
        doOnce(x);
        check.is("it knows", x.register(0, 0, 4), 0);
        x.up(0, false);
        check.is("it knows nothing, down", x.register(0, 0, 4), -1);
        x.up(0, true);
        check.is("it knows nothing, up", x.register(0, 0, 4), -1);
    }

    // ---- what comes to a scheduler

    private static void prepareAndThePromise() {
        check.of("0 PREPARE (ballot): if the promise isn't above the ballot, it becomes the promise");
        for (int promise = 0; promise <= 8; promise++) {
            TickKeeper x = oneJob(0);
            int[] wakes = {1, 1, 1, 2, 2};
            for (int s : wakes) {
                x.wake(s);
            }
            x.twin(findBallot(x, 5));
            // PREPARE of ballots 2, 5, 8, 3, 6 and once more 5 wait for 0; 1, 4 and 7 are its own.
            if (promise % 3 == 1) {
                for (int i = 0; i <= promise / 3; i++) {
                    x.wake(0);
                }
            } else if (promise > 0) {
                x.deliver(findBallot(x, promise));
            }
            check.is("promise", x.register(0, 0, 0), promise);
            int waiting = x.letters();
            x.deliver(findBallot(x, 5));
            check.is("the promise after " + promise, x.register(0, 0, 0), Math.max(promise, 5));
            check.is("is it answered after " + promise, x.letters() - waiting, promise > 5 ? -1 : 0);
            if (promise <= 5) {
                isLetter("PROMISED", x, x.letters() - 1, PROMISED, 0, 1, 0, 5, -1, 0, 0);
            }
        }
    }

    /** The place of the first PREPARE of a ballot to scheduler 0. */
    private static int findBallot(TickKeeper x, int ballot) {
        for (int i = 0; i < x.letters(); i++) {
            if (x.letter(i, 0) == PREPARE && x.letter(i, 2) == 0 && x.letter(i, 4) == ballot) {
                return i;
            }
        }
        return -1;
    }

    private static void promisedOfAnotherRound() {
        check.of("1 PROMISED: if its round has this ballot");
        TickKeeper x = oneJob(0);
        x.wake(0);
        give(x, PREPARE, 1);
        x.wake(0);
        int waiting = x.letters();
        give(x, PROMISED, 0);
        check.is("ballot 1 comes to a round of ballot 4", x.letters(), waiting - 1);
        isSeat("nothing is changed", x, 0, 0, 4, 0, -1, 0, -1, 1, 4, -1);
        TickKeeper y = oneJob(0);
        y.wake(0);
        give(y, PREPARE, 1);
        y.up(0, false);
        y.up(0, true);
        give(y, PROMISED, 0);
        isSeat("no round at all", y, 0, 0, 1, 0, -1, 0, -1, 0, 0, -1);
        check.is("nothing is sent", find(y, ACCEPT, 1), -1);
    }

    private static void promisedAtAnotherStage() {
        check.of("1 PROMISED: .. is at stage 1");
        int[] kinds = {ACCEPT, EFFECT};
        for (int kind : kinds) {
            TickKeeper x = oneJob(0);
            x.time(9);
            x.wake(0);
            x.twin(find(x, PREPARE, 1));
            give(x, PREPARE, 1);
            give(x, PREPARE, 1);
            give(x, PROMISED, 0);
            if (kind == EFFECT) {
                give(x, ACCEPT, 1);
                give(x, ACCEPTED, 0);
            }
            int stage = kind == ACCEPT ? 2 : 3;
            isSeat("before", x, 0, 0, 1, 1, 0, 1, -1, stage, 1, 0);
            int waiting = x.letters();
            give(x, PROMISED, 0);
            isSeat("nothing is changed at stage " + stage, x, 0, 0, 1, 1, 0, 1, -1, stage, 1, 0);
            check.is("nothing is sent at stage " + stage, x.letters(), waiting - 1);
        }
    }

    private static void promisedAndItsPromise() {
        check.of("1 PROMISED: .. and this is its promise still");
        TickKeeper x = oneJob(0);
        x.wake(0);
        give(x, PREPARE, 1);
        x.wake(2);
        give(x, PREPARE, 0);
        int waiting = x.letters();
        give(x, PROMISED, 0);
        isSeat("it has promised 3 since", x, 0, 0, 3, 0, -1, 0, -1, 1, 1, -1);
        check.is("nothing is sent", x.letters(), waiting - 1);
    }

    private static void lastOneOfTwo() {
        check.of("the one with the greater ballot (its own, if they are the same) is the last one");
        TickKeeper x = oneJob(0);
        x.time(9);
        prepare(x, 0, 1);
        loseAll(x);
        prepare(x, 0, 1);
        isSeat("its own of ballot 1 against nothing", x, 0, 0, 4, 4, 0, 2, -1, 2, 4, 0);
        loseAll(x);
        prepare(x, 1, 0);
        isSeat("nothing of its own against ballot 4", x, 1, 0, 5, 5, 0, 3, -1, 2, 5, 0);
        loseAll(x);
        prepare(x, 0, 1);
        isSeat("its own of 4 against 5", x, 0, 0, 7, 7, 0, 4, -1, 2, 7, 0);
        give(x, ACCEPT, 1);
        loseAll(x);
        prepare(x, 1, 0);
        isSeat("both of 7", x, 1, 0, 8, 8, 0, 5, -1, 2, 8, 0);
        loseAll(x);
        prepare(x, 1, 0);
        isSeat("its own of 8 against 7", x, 1, 0, 11, 11, 0, 6, -1, 2, 11, 0);
    }

    private static void claimedOrNext() {
        check.of("if its moment is above what it knows, it is claimed again; else the NEXT moment behind it");
        TickKeeper x = oneJob(0);
        x.time(5);
        x.set(0, 2, 2);
        x.wake(0);
        give(x, PREPARE, 1);
        x.lose(find(x, PREPARE, 2));
        // 2 does minute 5 with 1, while the promise of 1 is on its way to 0.
        effect(x, 2, 1, 0);
        x.twin(find(x, DONE, 0));
        give(x, DONE, 0);
        isSeat("it knows more than both tell", x, 0, 0, 1, 0, -1, 0, 5, 1, 1, -1);
        give(x, PROMISED, 0);
        isSeat("the NEXT one behind nothing is claimed", x, 0, 0, 1, 1, 5, 1, 5, 2, 1, 5);
        give(x, DONE, 0);
        check.is("DONE does not end stage 2", x.register(0, 0, 5), 2);
        TickKeeper y = oneJob(0);
        doOnce(y);
        y.set(0, 3, 0);
        y.time(1);
        prepare(y, 0, 1);
        isSeat("what is known is not claimed again", y, 0, 0, 4, 4, 1, 2, 0, 2, 4, 1);
        loseAll(y);
        y.time(2);
        prepare(y, 0, 1);
        isSeat("what isn't is, though another one is due", y, 0, 0, 7, 7, 1, 3, 0, 2, 7, 1);
        check.of("if there is none .. the round is over");
        TickKeeper z = midnights(0, 0, 0);
        z.wake(0);
        give(z, PREPARE, 1);
        z.time(1);
        int waiting = z.letters();
        give(z, PROMISED, 0);
        isSeat("it is too late now", z, 0, 0, 1, 0, -1, 0, -1, 0, 0, -1);
        check.is("nothing is sent", z.letters(), waiting - 1);
    }

    // ---- waiting

    /** Jobs 0 and 1 aren't paused, both due at each midnight, the time being one; only 0 is woken for. */
    private static TickKeeper twoJobs(int time) {
        TickKeeper x = midnights(time, 2, 0);
        x.set(1, 2, 2);
        return x;
    }

    /** Scheduler 0 knows an effect of a job now; all other jobs are paused then. */
    private static void know(TickKeeper x, int job) {
        pauseAllBut(x, job);
        effect(x, 0, 1, job % 2);
        give(x, DONE, 0);
        loseAll(x);
    }

    private static void pauseAllBut(TickKeeper x, int job) {
        for (int other = 0; other < 8; other++) {
            x.set(other, 4, other == job ? 0 : 1);
        }
    }

    private static int stageOf(TickKeeper x, int job) {
        pauseAllBut(x, job);
        prepare(x, 0, 1);
        loseAll(x);
        return x.register(0, job, 5);
    }

    private static void waitingForNothingKnown() {
        check.of("WAITING: a job has a set of other jobs (none at first). It has to wait if .. it knows no effect");
        TickKeeper x = twoJobs(0);
        check.is("no set at first", stageOf(x, 1), 2);
        TickKeeper y = twoJobs(0);
        check.yes("it waits", y.after(1, 0, true));
        check.is("it knows no effect", stageOf(y, 1), 0);
        isSeat("the round is over", y, 0, 1, 1, 0, -1, 0, -1, 0, 0, -1);
        check.yes("it waits no more", y.after(1, 0, false));
        check.is("nothing to wait for", stageOf(y, 1), 2);
        check.of("false if .. both are one");
        for (int job = 0; job < 8; job++) {
            TickKeeper z = twoJobs(0);
            check.no("off", z.after(job, job, false));
            check.no("on", z.after(job, job, true));
            z.set(job, 2, 2);
            check.is("it doesn't wait for itself", stageOf(z, job), 2);
        }
    }

    /** The moment's local day may be day - 1, which no effect lies before: it has to wait all the same. */
    private static void waitingBeforeTheFirstDay() {
        check.of("It has to wait if .. it knows no effect: on days before the first");
        TickKeeper x = oneJob(1);
        x.shift(0, 0, -900);
        x.mask(0, 0, ALL, ALL);
        x.mask(0, 1, 0, ALL);
        x.after(1, 0, true);
        check.is("it knows no effect", stageOf(x, 1), 0);
        know(x, 0);
        check.is("one of day - 1", stageOf(x, 1), 2);
        TickKeeper y = oneJob(0);
        y.shift(0, 0, -900);
        know(y, 0);
        y.mask(1, 0, ALL, ALL);
        y.mask(1, 1, 0, ALL);
        y.set(1, 2, 2);
        y.after(1, 0, true);
        y.time(899);
        check.is("day - 1 still", stageOf(y, 1), 2);
        TickKeeper z = oneJob(0);
        z.shift(0, 0, -900);
        know(z, 0);
        z.set(1, 2, 2);
        z.after(1, 0, true);
        z.time(900);
        check.is("day 0: one of day - 1 is too early", stageOf(z, 1), 0);
    }

    private static void waitingByDays() {
        check.of("or one of an earlier local day (by that job's zone) than the claimed moment's (by its own)");
        // Job 0 is done at minute 1440; job 1 comes at later minutes, with offsets of either zone.
        int[] offsets0 = {0, 0, -1, -1, 0, 0, 900, -900};
        int[] offsets1 = {0, 0, 0, -1, -900, 900, 0, 0};
        int[] minutes = {2879, 2880, 1440, 1441, 2880, 1979, 2880, 1440};
        int[] stages = {2, 0, 0, 0, 2, 2, 0, 0};
        for (int i = 0; i < stages.length; i++) {
            TickKeeper x = oneJob(0);
            x.time(1440);
            x.shift(0, 0, offsets0[i]);
            x.shift(1, 0, offsets1[i]);
            x.set(0, 2, 2);
            know(x, 0);
            x.set(1, 0, 1);
            x.set(1, 2, 2);
            x.mask(1, 0, ALL, ALL);
            x.mask(1, 1, 0, ALL);
            x.after(1, 0, true);
            x.time(minutes[i]);
            check.is("by days " + i, stageOf(x, 1), stages[i]);
        }
    }

    private static void waitingForSeveral() {
        check.of("if of one of the jobs of its set");
        TickKeeper x = twoJobs(0);
        for (int job = 2; job < 8; job++) {
            x.set(job, 2, 2);
        }
        x.after(7, 0, true);
        x.after(7, 3, true);
        x.after(7, 6, true);
        int[] order = {6, 0, 3};
        for (int i = 0; i < 3; i++) {
            check.is(i + " of three are known", stageOf(x, 7), 0);
            know(x, order[i]);
        }
        check.is("all are known", stageOf(x, 7), 2);
        check.is("0 does not wait for 7, nor for itself", x.effects(0), 1);
    }

    private static void waitingWithWhatIsClaimedAgain() {
        check.of("or (in both cases) the job is paused or has to wait, the round is over");
        TickKeeper x = twoJobs(0);
        check.is("claimed", stageOf(x, 1), 2);
        x.after(1, 0, true);
        check.is("it would be claimed again, but has to wait", stageOf(x, 1), 0);
        isSeat("nothing is accepted", x, 0, 1, 4, 1, 0, 1, -1, 0, 0, -1);
        x.after(1, 0, false);
        x.wake(0);
        give(x, PREPARE, 1);
        x.set(1, 4, 1);
        int waiting = x.letters();
        give(x, PROMISED, 0);
        isSeat("it would be claimed again, but is paused", x, 0, 1, 7, 1, 0, 1, -1, 0, 0, -1);
        check.is("nothing is sent", x.letters(), waiting - 1);
    }

    // ---- ACCEPT and ACCEPTED

    private static void acceptAndThePromise() {
        check.of("2 ACCEPT: if the promise isn't above the ballot, it becomes the promise, this is accepted");
        // 1 claims minute 7 by ballot 2, with the help of 2.
        int[] promises = {0, 1, 2, 3};
        for (int promise : promises) {
            TickKeeper x = oneJob(0);
            x.time(7);
            x.set(0, 3, 0);
            prepare(x, 1, 2);
            if (promise == 1) {
                x.wake(0);
            } else if (promise == 2) {
                give(x, PREPARE, 0);
            } else if (promise == 3) {
                promise3(x);
            }
            check.is("promise", x.register(0, 0, 0), promise);
            int waiting = x.letters();
            give(x, ACCEPT, 0);
            boolean heard = promise <= 2;
            check.is("promise after " + promise, x.register(0, 0, 0), heard ? 2 : 3);
            check.is("ballot after " + promise, x.register(0, 0, 1), heard ? 2 : 0);
            check.is("moment after " + promise, x.register(0, 0, 2), heard ? 7 : -1);
            check.is("guard after " + promise, x.register(0, 0, 3), heard ? 1 : 0);
            check.is("answered after " + promise, x.letters() - waiting, heard ? 0 : -1);
            if (heard) {
                isLetter("ACCEPTED", x, x.letters() - 1, ACCEPTED, 0, 1, 0, 2, -1, 0, 0);
            }
        }
    }

    /** Scheduler 0 promises ballot 3 to scheduler 2. */
    private static void promise3(TickKeeper x) {
        x.lose(find(x, PREPARE, 0));
        x.wake(2);
        give(x, PREPARE, 0);
    }

    private static void acceptedOfAnotherRound() {
        check.of("3 ACCEPTED: if its round has this ballot and is at stage 2");
        TickKeeper x = oneJob(0);
        prepare(x, 0, 1);
        x.lose(find(x, PREPARE, 2));
        x.lose(find(x, ACCEPT, 2));
        x.twin(find(x, ACCEPT, 1));
        give(x, ACCEPT, 1);
        give(x, ACCEPT, 1);
        x.wake(0);
        give(x, ACCEPTED, 0);
        isSeat("ballot 1 at stage 1 of ballot 4", x, 0, 0, 4, 1, 0, 1, -1, 1, 4, -1);
        give(x, PREPARE, 1);
        give(x, PROMISED, 0);
        int waiting = x.letters();
        give(x, ACCEPTED, 0);
        isSeat("ballot 1 at stage 2 of ballot 4", x, 0, 0, 4, 4, 0, 2, -1, 2, 4, 0);
        check.is("no EFFECT", x.letters(), waiting - 1);
        give(x, ACCEPT, 1);
        x.twin(find(x, ACCEPTED, 0));
        give(x, ACCEPTED, 0);
        isLetter("EFFECT", x, x.letters() - 1, EFFECT, 0, 0, 0, 0, 0, 2, 0);
        waiting = x.letters();
        give(x, ACCEPTED, 0);
        check.is("no second EFFECT at stage 3", x.letters(), waiting - 1);
        check.is("stage 3", x.register(0, 0, 5), 3);
    }

    /** What a round claimed is its own, though the scheduler has accepted another moment since. */
    private static void acceptedOfAnOldRound() {
        check.of("3 ACCEPTED: .. EFFECT (moment, guard) is sent: of what the round claims");
        TickKeeper x = oneJob(0);
        x.time(1);
        prepare(x, 0, 1);
        give(x, ACCEPT, 1);
        x.lose(find(x, PREPARE, 2));
        x.lose(find(x, ACCEPT, 2));
        // Minute 0 is claimed again, and done, by 2; then 2 claims minute 1, and 0 accepts that.
        effect(x, 2, 1, 0);
        give(x, DONE, 2);
        x.lose(find(x, PREPARE, 0));
        x.lose(find(x, ACCEPT, 0));
        prepare(x, 2, 1);
        give(x, ACCEPT, 0);
        isSeat("accepted from 2, the round of ballot 1 being there still", x, 0, 0, 6, 6, 1, 3, -1, 2, 1, 0);
        give(x, ACCEPTED, 0);
        isLetter("EFFECT", x, x.letters() - 1, EFFECT, 0, 0, 0, 0, 0, 1, 0);
        give(x, EFFECT, 0);
        check.is("a guard and a moment that came before", x.effects(0), 1);
        give(x, ACCEPTED, 2);
        give(x, EFFECT, 0);
        check.is("2 goes on", x.effect(0, 1, 0), 1);
        check.is("with its guard", x.effect(0, 1, 1), 3);
    }

    // ---- desks

    private static void desksOfJobs() {
        check.of("DESKS 0 and 1 (job j is of desk j modulo 2)");
        for (int job = 0; job < 8; job++) {
            TickKeeper x = oneJob(job);
            x.desk(1 - job % 2, false);
            effect(x, 2, 0, job % 2);
            for (int other = 0; other < 8; other++) {
                check.is("effects of " + other, x.effects(other), other == job ? 1 : 0);
            }
            for (int s = 0; s < 3; s++) {
                isLetter("DONE", x, find(x, DONE, s), DONE, job % 2, s, job, 0, 0, 0, 0);
            }
        }
    }

    private static void effectOnceMore() {
        check.of("one is added if the guard is above the greatest one before, the moment above the last effect's");
        TickKeeper x = oneJob(0);
        bringUpTo(x, EFFECT);
        x.twin(find(x, EFFECT, 0));
        give(x, EFFECT, 0);
        loseDone(x);
        give(x, EFFECT, 0);
        check.is("the same moment and guard", x.effects(0), 1);
        check.is("DONE is sent all the same", x.letter(find(x, DONE, 2), 5), 0);
        loseAll(x);
        effect(x, 0, 1, 0);
        check.is("the same moment, another guard", x.effects(0), 1);
        check.is("the first guard is kept", x.effect(0, 0, 1), 1);
        check.is("DONE is sent all the same", x.letter(find(x, DONE, 2), 5), 0);
        give(x, DONE, 0);
        x.time(1);
        loseAll(x);
        effect(x, 0, 1, 0);
        check.is("a minute more and a guard more", x.effects(0), 2);
        check.is("its moment", x.effect(0, 1, 0), 1);
        check.is("its guard", x.effect(0, 1, 1), 3);
    }

    private static void loseDone(TickKeeper x) {
        for (int s = 0; s < 3; s++) {
            x.lose(find(x, DONE, s));
        }
    }

    private static void fewerThan40() {
        check.of("and there are fewer than 40");
        TickKeeper x = oneJob(0);
        x.time(1000);
        x.wake(0);
        fill(x, 59);
        // With room for one letter alone, the second and the third of a kind are lost at once.
        int[] kinds = {PREPARE, PROMISED, ACCEPT, ACCEPTED, EFFECT, DONE};
        for (int n = 1; n <= 41; n++) {
            x.wake(0);
            for (int kind : kinds) {
                if (n == 41 && kind == DONE) {
                    isLetter("DONE of the 41st tells the 40th", x, 59, DONE, 0, 0, 0, 0, 39, 0, 0);
                }
                check.is("by turns", x.deliver(59), kind);
            }
            if (n >= 38) {
                check.is("effects", x.effects(0), Math.min(n, 40));
            }
        }
        check.is("the 40th's moment", x.effect(0, 39, 0), 39);
        check.is("the 40th's guard", x.effect(0, 39, 1), 40);
        check.is("no 41st", x.effect(0, 40, 0), -1);
        isSeat("its round goes on", x, 0, 0, 124, 124, 40, 41, 39, 3, 124, 40);
    }

    // ---- DONE

    private static void doneTellsMoreOrLess() {
        check.of("5 DONE: it knows the greater one of what it knew and this");
        TickKeeper x = oneJob(0);
        x.time(1);
        doOnceAndTell(x);
        doOnceAndTell(x);
        // DONE of minute 0 and of minute 1 wait for 2, each once more.
        int first = find(x, DONE, 2);
        x.twin(first);
        x.lose(first);
        give(x, DONE, 2);
        check.is("more than nothing", x.register(2, 0, 4), 1);
        give(x, DONE, 2);
        check.is("less", x.register(2, 0, 4), 1);
        give(x, DONE, 1);
        check.is("0 is more than nothing", x.register(1, 0, 4), 0);
        x.twin(find(x, DONE, 1));
        give(x, DONE, 1);
        check.is("more", x.register(1, 0, 4), 1);
        give(x, DONE, 1);
        check.is("the same", x.register(1, 0, 4), 1);
        check.is("of another job nothing", x.register(1, 2, 4), -1);
    }

    private static void doOnceAndTell(TickKeeper x) {
        effect(x, 0, 1, 0);
        give(x, DONE, 0);
        x.lose(find(x, PREPARE, 2));
        x.lose(find(x, ACCEPT, 2));
    }

    private static void doneAndTheStages() {
        check.of("a round of stage 3 whose moment isn't above that is over");
        TickKeeper x = oneJob(0);
        x.time(3);
        effect(x, 0, 1, 0);
        x.twin(find(x, DONE, 0));
        x.twin(find(x, DONE, 0));
        x.twin(find(x, DONE, 0));
        give(x, DONE, 0);
        isSeat("the same moment", x, 0, 0, 1, 1, 0, 1, 0, 0, 0, -1);
        x.wake(0);
        give(x, DONE, 0);
        isSeat("stage 1 goes on", x, 0, 0, 4, 1, 0, 1, 0, 1, 4, -1);
        x.lose(find(x, PREPARE, 2));
        x.lose(find(x, PREPARE, 2));
        x.lose(find(x, ACCEPT, 2));
        give(x, PREPARE, 1);
        give(x, PROMISED, 0);
        give(x, ACCEPT, 1);
        give(x, ACCEPTED, 0);
        give(x, DONE, 0);
        isSeat("stage 3 of a moment above it goes on", x, 0, 0, 4, 4, 1, 2, 0, 3, 4, 1);
        loseAllBut(x, EFFECT);
        give(x, EFFECT, 0);
        give(x, DONE, 1);
        loseAll(x);
        // 1 goes on to minute 2, while 0 has not heard of minute 1.
        effect(x, 1, 2, 0);
        give(x, DONE, 0);
        isSeat("stage 3 of a moment below it", x, 0, 0, 4, 4, 1, 2, 2, 0, 0, -1);
    }

    private static void loseAllBut(TickKeeper x, int kind) {
        for (int i = x.letters() - 1; i >= 0; i--) {
            if (x.letter(i, 0) != kind) {
                x.lose(i);
            }
        }
    }

    // ---- what is told

    private static void whatLettersTell() {
        check.of("NONE if there is none, or for another what");
        TickKeeper x = oneJob(5);
        x.time(7);
        x.set(5, 3, 0);
        int[][] told = {
            {PREPARE, 0, 1, 5, 4, -1, 0, 0}, {PROMISED, 1, 0, 5, 4, 7, 1, 1}, {ACCEPT, 0, 1, 5, 4, 7, 2, 0},
            {ACCEPTED, 1, 0, 5, 4, -1, 0, 0}, {EFFECT, 0, 1, 5, 0, 7, 2, 0}, {DONE, 1, 0, 5, 0, 7, 0, 0}};
        prepare(x, 0, 1);
        give(x, ACCEPT, 1);
        loseAll(x);
        x.wake(0);
        for (int kind = PREPARE; kind <= DONE; kind++) {
            // Each letter is the only one that waits, so that all stand in one place of the row by turns.
            keepOne(x, kind, told[kind][2]);
            isLetter("kind " + kind, x, 0, told[kind]);
            for (int what : NO_WHAT) {
                check.is("what " + what + " of kind " + kind, x.letter(0, what), -1);
            }
            check.is("what 0 of no letter", x.letter(1, 0), -1);
            x.deliver(0);
        }
        check.is("none is left", x.letter(0, 0), -1);
    }

    private static void keepOne(TickKeeper x, int kind, int to) {
        for (int i = x.letters() - 1; i >= 0; i--) {
            if (x.letter(i, 0) != kind || x.letter(i, 2) != to) {
                x.lose(i);
            }
        }
        check.is("one is kept", x.letters(), 1);
    }

    private static void registers() {
        check.of("register: NONE if there are none such, or for another what");
        TickKeeper x = oneJob(7);
        effect(x, 2, 0, 1);
        isSeat("all that is told", x, 2, 7, 3, 3, 0, 1, -1, 3, 3, 0);
        for (int i = 0; i < 4; i++) {
            for (int what = 0; what < 8; what++) {
                check.is("job " + NO_JOB[i], x.register(2, NO_JOB[i], what), -1);
                check.is("scheduler " + NO_SCHEDULER[i], x.register(NO_SCHEDULER[i], 7, what), -1);
            }
            check.is("what " + NO_WHAT[i], x.register(2, 7, NO_WHAT[i]), -1);
        }
        check.of("the moment it claims (- 1 before stage 2)");
        TickKeeper y = oneJob(0);
        doOnce(y);
        y.time(1);
        y.wake(0);
        check.is("stage 1", y.register(0, 0, 7), -1);
        give(y, PREPARE, 1);
        give(y, PROMISED, 0);
        check.is("stage 2", y.register(0, 0, 7), 1);
    }

    private static void effectsThereAre() {
        check.of("effects, effect: NONE if there is none such, or for another what");
        TickKeeper x = oneJob(6);
        x.time(1);
        check.is("none at first", x.effects(6), 0);
        check.is("no effect 0", x.effect(6, 0, 0), -1);
        for (int n = 1; n <= 2; n++) {
            effect(x, 0, 1, 0);
            give(x, DONE, 0);
            loseAll(x);
            check.is("effects", x.effects(6), n);
            check.is("moment", x.effect(6, n - 1, 0), n - 1);
            check.is("guard", x.effect(6, n - 1, 1), n);
            int[] wrong = {-1, n, n + 1, 40, LOW, HIGH};
            for (int i : wrong) {
                check.is("effect " + i, x.effect(6, i, 0), -1);
                check.is("effect " + i, x.effect(6, i, 1), -1);
            }
        }
        int[] whats = {-1, 2, LOW, HIGH};
        for (int i = 0; i < 4; i++) {
            check.is("what " + whats[i], x.effect(6, 0, whats[i]), -1);
            check.is("job " + NO_JOB[i], x.effects(NO_JOB[i]), -1);
            check.is("job " + NO_JOB[i], x.effect(NO_JOB[i], 0, 0), -1);
        }
        check.is("another job has none", x.effects(7), 0);
        check.is("another job has none", x.effect(7, 0, 0), -1);
    }
}
