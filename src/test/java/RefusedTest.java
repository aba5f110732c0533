import java.util.ArrayList;
import java.util.List;

/**
 * "What answers false or NONE changes nothing": of two objects with the same past one gets a call
 * that is refused; whatever is asked of both then, they answer the same.
 */
public final class RefusedTest {
    private static final int LAST = 52595999;
    private static final int LOW = Integer.MIN_VALUE;
    private static final int HIGH = Integer.MAX_VALUE;
    private static final int ALL = -1;
    private static final Check check = new Check();

    private interface Past {
        void live(TickKeeper x);
    }

    /** A call: what it answers, false being 0. */
    private interface Call {
        int on(TickKeeper x);
    }

    /** Questions and calls whose answers tell what an object is like. */
    private interface Look {
        void at(TickKeeper x, List<Integer> answers);
    }

    private static final class Refused {
        final String name;
        final int answer;
        final Call call;

        Refused(String name, int answer, Call call) {
            this.name = name;
            this.answer = answer;
            this.call = call;
        }
    }

    private static final Look[] LOOKS = {
        RefusedTest::lookAtLetters, RefusedTest::lookAtTheRow, RefusedTest::lookAtRegisters,
        RefusedTest::lookAtEffects, RefusedTest::lookAtDueMinutes, RefusedTest::lookAtRoom,
        RefusedTest::lookAtWhoIsThere, RefusedTest::lookAtRounds, RefusedTest::lookAtTime};

    public static void main(String[] args) {
        tryAll("new", x -> { }, alwaysRefused());
        tryAll("settings", RefusedTest::settings, alwaysRefused());
        tryAll("settings", RefusedTest::settings, refusedBySettings());
        tryAll("rounds", RefusedTest::rounds, alwaysRefused());
        tryAll("rounds", RefusedTest::rounds, refusedInRounds());
        tryAll("full", RefusedTest::full, alwaysRefused());
        tryAll("full", RefusedTest::full, refusedIfFull());
        tryAll("forty effects", RefusedTest::fortyEffects, alwaysRefused());
        check.end();
    }

    private static void tryAll(String pastName, Past past, List<Refused> calls) {
        for (Refused refused : calls) {
            for (Look look : LOOKS) {
                TickKeeper with = new TickKeeper();
                TickKeeper without = new TickKeeper();
                past.live(with);
                past.live(without);
                check.is(pastName + ": " + refused.name, refused.call.on(with), refused.answer);
                List<Integer> got = new ArrayList<>();
                List<Integer> want = new ArrayList<>();
                look.at(with, got);
                look.at(without, want);
                check.yes(pastName + ": the same as without " + refused.name, got.equals(want));
            }
        }
    }

    // ---- pasts

    private static void settings(TickKeeper x) {
        x.time(5000);
        for (int zone = 0; zone < 4; zone++) {
            x.shift(zone, 1000 * zone, 60 * zone - 90);
            x.shift(zone, 9000, 30);
            x.holiday(zone, 3 + zone);
        }
        for (int job = 0; job < 8; job++) {
            x.set(job, 0, job % 4);
            x.set(job, 1, job / 4);
            x.set(job, 2, job % 3);
            x.set(job, 3, 900 * job);
            x.mask(job, 0, 1 << job, 0);
            x.mask(job, 1, 0, 0xFF00FF >> job);
            x.mask(job, 2, 0, ~(16 << job));
            x.mask(job, 4, 0, 127 & ~(1 << job % 7));
            x.except(job, x.due(job, 0));
        }
        x.except(3, 4000);
        x.nth(2, 3, 2);
        x.nth(5, 4, 6);
        x.set(6, 4, 1);
        x.after(3, 2, true);
        x.after(4, 6, true);
    }

    /** Rounds of all stages, letters of all kinds; scheduler 2 is down at last, and desk 1 off. */
    private static void rounds(TickKeeper x) {
        x.time(2000);
        for (int job = 0; job < 8; job++) {
            x.set(job, 3, 5000);
            x.set(job, 4, job < 4 ? 0 : 1);
        }
        x.wake(0);
        // PREPARE to 1 of jobs 0 .. 3 come; one of their PROMISED is doubled, and three come.
        for (int job = 0; job < 4; job++) {
            x.deliver(job);
        }
        x.twin(4);
        x.deliver(4);
        x.deliver(4);
        x.deliver(4);
        // ACCEPT to 2 come, one behind the other; then job 1 gets as far as DONE, and job 0 to EFFECT.
        for (int i = 0; i < 4; i++) {
            x.deliver(7 + i);
        }
        x.deliver(x.letters() - 1);
        x.deliver(x.letters() - 1);
        x.deliver(x.letters() - 1);
        x.deliver(9);
        check.is("job 0 is at stage 3", x.register(0, 0, 5), 3);
        check.is("job 1 has an effect", x.effects(1), 1);
        check.is("job 2 is at stage 2", x.register(0, 2, 5), 2);
        check.is("job 3 is at stage 1", x.register(0, 3, 5), 1);
        x.wake(1);
        x.up(2, false);
        x.desk(1, false);
    }

    /** 8 shifts, 16 holidays, 8 exceptions and 60 letters. */
    private static void full(TickKeeper x) {
        for (int i = 0; i < 8; i++) {
            x.shift(0, 100 * i + 50, 30 * i - 60);
            x.except(0, 1440 * i);
            x.holiday(0, 10 + i);
            x.holiday(0, 20 + i);
        }
        x.time(3000);
        x.set(0, 3, 3000);
        x.wake(0);
        for (int waiting = 16; waiting < 60; waiting++) {
            x.twin(waiting - 16);
        }
        check.is("so many letters", x.letters(), 60);
    }

    /** 40 effects of job 0, and 59 letters. */
    private static void fortyEffects(TickKeeper x) {
        for (int job = 1; job < 8; job++) {
            x.set(job, 4, 1);
        }
        x.mask(0, 0, ALL, ALL);
        x.mask(0, 1, 0, ALL);
        x.time(3000);
        x.set(0, 3, 1000);
        x.wake(0);
        for (int waiting = 2; waiting < 59; waiting++) {
            x.twin(0);
        }
        // With room for one letter alone, each round needs but these calls.
        for (int n = 0; n < 40; n++) {
            x.wake(0);
            for (int i = 0; i < 6; i++) {
                x.deliver(59);
            }
        }
        check.is("so many effects", x.effects(0), 40);
    }

    // ---- refused calls

    private static int number(boolean answer) {
        return answer ? 1 : 0;
    }

    private static List<Refused> alwaysRefused() {
        List<Refused> calls = new ArrayList<>();
        int[] odd = {LOW, -1, HIGH};
        for (int i : odd) {
            noSuchTimeOrZone(calls, i);
            noSuchJob(calls, i);
            noSuchOne(calls, i);
        }
        noSuchJob(calls, 8);
        int[] beyond = {LAST + 1, 36525, 901, -901, 100001};
        noSuchValues(calls, beyond[0], beyond[1], beyond[2], beyond[4]);
        calls.add(new Refused("shift(0, 40000, -901)", 0, x -> number(x.shift(0, 40000, beyond[3]))));
        calls.add(new Refused("shift(4, 40000, 1)", 0, x -> number(x.shift(4, 40000, 1))));
        calls.add(new Refused("holiday(4, 40)", 0, x -> number(x.holiday(4, 40))));
        calls.add(new Refused("local(4, 1)", -1, x -> x.local(4, 1)));
        calls.add(new Refused("mask(0, 5, 0, 0)", 0, x -> number(x.mask(0, 5, 0, 0))));
        calls.add(new Refused("nth(0, 7, 1)", 0, x -> number(x.nth(0, 7, 1))));
        calls.add(new Refused("nth(0, 7, 0)", 0, x -> number(x.nth(0, 7, 0))));
        calls.add(new Refused("nth(0, 0, 7)", 0, x -> number(x.nth(0, 0, 7))));
        calls.add(new Refused("set(0, 5, 1)", 0, x -> number(x.set(0, 5, 1))));
        calls.add(new Refused("set(0, 0, 4)", 0, x -> number(x.set(0, 0, 4))));
        calls.add(new Refused("set(0, 2, 3)", 0, x -> number(x.set(0, 2, 3))));
        calls.add(new Refused("after(2, 2, true)", 0, x -> number(x.after(2, 2, true))));
        calls.add(new Refused("after(2, 2, false)", 0, x -> number(x.after(2, 2, false))));
        calls.add(new Refused("wake(3)", -1, x -> x.wake(3)));
        calls.add(new Refused("up(3, false)", 0, x -> number(x.up(3, false))));
        calls.add(new Refused("up(0, true)", 0, x -> number(x.up(0, true))));
        calls.add(new Refused("desk(2, false)", 0, x -> number(x.desk(2, false))));
        calls.add(new Refused("desk(0, true)", 0, x -> number(x.desk(0, true))));
        calls.add(new Refused("deliver(letters())", -1, x -> x.deliver(x.letters())));
        calls.add(new Refused("lose(letters())", 0, x -> number(x.lose(x.letters()))));
        calls.add(new Refused("twin(letters())", 0, x -> number(x.twin(x.letters()))));
        calls.add(new Refused("letter(letters(), 0)", -1, x -> x.letter(x.letters(), 0)));
        calls.add(new Refused("letter(0, 8)", -1, x -> x.letter(0, 8)));
        calls.add(new Refused("register(3, 0, 0)", -1, x -> x.register(3, 0, 0)));
        calls.add(new Refused("register(0, 0, 8)", -1, x -> x.register(0, 0, 8)));
        calls.add(new Refused("effect(0, 40, 0)", -1, x -> x.effect(0, 40, 0)));
        calls.add(new Refused("effect(0, 0, 2)", -1, x -> x.effect(0, 0, 2)));
        return calls;
    }

    private static void noSuchTimeOrZone(List<Refused> calls, int i) {
        noSuchValues(calls, i, i, i == -1 ? LOW : i, i);
        calls.add(new Refused("shift(" + i + ", 40000, 1)", 0, x -> number(x.shift(i, 40000, 1))));
        calls.add(new Refused("holiday(" + i + ", 40)", 0, x -> number(x.holiday(i, 40))));
        calls.add(new Refused("local(" + i + ", 1)", -1, x -> x.local(i, 1)));
        calls.add(new Refused("set(0, 0, " + i + ")", 0, x -> number(x.set(0, 0, i))));
        calls.add(new Refused("set(0, 2, " + i + ")", 0, x -> number(x.set(0, 2, i))));
        calls.add(new Refused("set(0, " + i + ", 1)", 0, x -> number(x.set(0, i, 1))));
        calls.add(new Refused("mask(0, " + i + ", 0, 0)", 0, x -> number(x.mask(0, i, 0, 0))));
        calls.add(new Refused("nth(0, " + i + ", 1)", 0, x -> number(x.nth(0, i, 1))));
        calls.add(new Refused("nth(0, 0, " + i + ")", 0, x -> number(x.nth(0, 0, i))));
    }

    /** No such minute, day, offset, lateness. */
    private static void noSuchValues(List<Refused> calls, int minute, int day, int offset, int lateness) {
        calls.add(new Refused("time(" + minute + ")", 0, x -> number(x.time(minute))));
        calls.add(new Refused("shift(0, " + minute + ", 1)", 0, x -> number(x.shift(0, minute, 1))));
        calls.add(new Refused("shift(0, 40000, " + offset + ")", 0, x -> number(x.shift(0, 40000, offset))));
        calls.add(new Refused("holiday(0, " + day + ")", 0, x -> number(x.holiday(0, day))));
        calls.add(new Refused("except(0, " + minute + ")", 0, x -> number(x.except(0, minute))));
        calls.add(new Refused("isDue(0, " + minute + ")", 0, x -> number(x.isDue(0, minute))));
        calls.add(new Refused("due(0, " + minute + ")", -1, x -> x.due(0, minute)));
        calls.add(new Refused("local(0, " + minute + ")", -1, x -> x.local(0, minute)));
        calls.add(new Refused("set(0, 3, " + lateness + ")", 0, x -> number(x.set(0, 3, lateness))));
    }

    private static void noSuchJob(List<Refused> calls, int job) {
        for (int mask = 0; mask < 5; mask++) {
            int which = mask;
            calls.add(new Refused("mask of job " + job, 0, x -> number(x.mask(job, which, 0, 0))));
            calls.add(new Refused("set of job " + job, 0, x -> number(x.set(job, which, 1))));
        }
        calls.add(new Refused("nth of job " + job, 0, x -> number(x.nth(job, 0, 1))));
        calls.add(new Refused("except of job " + job, 0, x -> number(x.except(job, 0))));
        calls.add(new Refused("after of job " + job, 0, x -> number(x.after(job, 0, true))));
        calls.add(new Refused("after for job " + job, 0, x -> number(x.after(0, job, true))));
        calls.add(new Refused("isDue of job " + job, 0, x -> number(x.isDue(job, 0))));
        calls.add(new Refused("due of job " + job, -1, x -> x.due(job, 0)));
        calls.add(new Refused("register of job " + job, -1, x -> x.register(0, job, 0)));
        calls.add(new Refused("effects of job " + job, -1, x -> x.effects(job)));
        calls.add(new Refused("effect of job " + job, -1, x -> x.effect(job, 0, 0)));
    }

    /** No such scheduler, desk, letter, effect, what. */
    private static void noSuchOne(List<Refused> calls, int i) {
        calls.add(new Refused("wake(" + i + ")", -1, x -> x.wake(i)));
        calls.add(new Refused("up(" + i + ", false)", 0, x -> number(x.up(i, false))));
        calls.add(new Refused("desk(" + i + ", false)", 0, x -> number(x.desk(i, false))));
        calls.add(new Refused("deliver(" + i + ")", -1, x -> x.deliver(i)));
        calls.add(new Refused("lose(" + i + ")", 0, x -> number(x.lose(i))));
        calls.add(new Refused("twin(" + i + ")", 0, x -> number(x.twin(i))));
        calls.add(new Refused("letter(" + i + ", 0)", -1, x -> x.letter(i, 0)));
        calls.add(new Refused("letter(0, " + i + ")", -1, x -> x.letter(0, i)));
        calls.add(new Refused("register(" + i + ", 0, 0)", -1, x -> x.register(i, 0, 0)));
        calls.add(new Refused("register(0, 0, " + i + ")", -1, x -> x.register(0, 0, i)));
        calls.add(new Refused("effect(0, " + i + ", 0)", -1, x -> x.effect(0, i, 0)));
        calls.add(new Refused("effect(0, 0, " + i + ")", -1, x -> x.effect(0, 0, i)));
    }

    private static List<Refused> refusedBySettings() {
        List<Refused> calls = new ArrayList<>();
        calls.add(new Refused("time(4999)", 0, x -> number(x.time(4999))));
        calls.add(new Refused("shift at the last one", 0, x -> number(x.shift(1, 9000, 7))));
        calls.add(new Refused("shift before the last one", 0, x -> number(x.shift(1, 8999, 7))));
        calls.add(new Refused("holiday that is one", 0, x -> number(x.holiday(2, 5))));
        calls.add(new Refused("exception that is one", 0, x -> number(x.except(3, 4000))));
        calls.add(new Refused("due of a job that is never due", -1, x -> x.due(2, LAST)));
        return calls;
    }

    private static List<Refused> refusedInRounds() {
        List<Refused> calls = new ArrayList<>();
        calls.add(new Refused("wake of one that is down", -1, x -> x.wake(2)));
        calls.add(new Refused("down: it is so", 0, x -> number(x.up(2, false))));
        calls.add(new Refused("up: it is so", 0, x -> number(x.up(1, true))));
        calls.add(new Refused("off: it is so", 0, x -> number(x.desk(1, false))));
        return calls;
    }

    private static List<Refused> refusedIfFull() {
        List<Refused> calls = new ArrayList<>();
        calls.add(new Refused("a ninth shift", 0, x -> number(x.shift(0, 40000, 7))));
        calls.add(new Refused("a seventeenth holiday", 0, x -> number(x.holiday(0, 40))));
        calls.add(new Refused("a sixteenth holiday again", 0, x -> number(x.holiday(0, 27))));
        calls.add(new Refused("a ninth exception", 0, x -> number(x.except(0, 2999))));
        calls.add(new Refused("an eighth exception again", 0, x -> number(x.except(0, 1440 * 7))));
        calls.add(new Refused("a 61st letter", 0, x -> number(x.twin(3))));
        calls.add(new Refused("letter 60", -1, x -> x.deliver(60)));
        calls.add(new Refused("letter 60 lost", 0, x -> number(x.lose(60))));
        return calls;
    }

    // ---- looks

    private static void lookAtLetters(TickKeeper x, List<Integer> answers) {
        answers.add(x.letters());
        for (int i = 0; i < x.letters() && i < 12; i++) {
            for (int what = 0; what < 8; what++) {
                answers.add(x.letter(i, what));
            }
        }
    }

    /** All letters, though not all that they tell. */
    private static void lookAtTheRow(TickKeeper x, List<Integer> answers) {
        for (int i = 0; i < 61; i++) {
            answers.add(x.letter(i, 2));
            answers.add(x.letter(i, 3));
        }
    }

    private static void lookAtRegisters(TickKeeper x, List<Integer> answers) {
        for (int s = 0; s < 3; s++) {
            for (int job = 0; job < 4; job++) {
                for (int what = 0; what < 8; what++) {
                    answers.add(x.register(s, job, what));
                }
            }
        }
    }

    private static void lookAtEffects(TickKeeper x, List<Integer> answers) {
        for (int job = 0; job < 8; job++) {
            answers.add(x.effects(job));
        }
        for (int i = 0; i < 40; i++) {
            answers.add(x.effect(0, i, 0));
            answers.add(x.effect(0, i, 1));
        }
    }

    private static void lookAtDueMinutes(TickKeeper x, List<Integer> answers) {
        for (int job = 0; job < 8; job++) {
            int minute = 0;
            for (int i = 0; i < 9 && minute >= 0; i++) {
                int found = x.due(job, minute);
                answers.add(found);
                minute = found < 0 ? -1 : minute + 1500;
            }
        }
        for (int zone = 0; zone < 4; zone++) {
            answers.add(x.local(zone, 0));
            answers.add(x.local(zone, 50000));
            answers.add(x.local(zone, LAST));
        }
    }

    /** How many shifts, holidays, exceptions and letters are still taken. */
    private static void lookAtRoom(TickKeeper x, List<Integer> answers) {
        for (int i = 0; i < 9; i++) {
            answers.add(number(x.shift(0, 10000 + i, i)));
            answers.add(number(x.except(0, 10000 + i)));
        }
        for (int i = 0; i < 17; i++) {
            answers.add(number(x.holiday(0, 200 + i)));
        }
        x.lose(0);
        answers.add(number(x.twin(0)));
        answers.add(number(x.twin(0)));
    }

    private static void lookAtWhoIsThere(TickKeeper x, List<Integer> answers) {
        for (int s = 0; s < 3; s++) {
            answers.add(number(x.up(s, false)));
        }
        for (int d = 0; d < 2; d++) {
            answers.add(number(x.desk(d, false)));
        }
        for (int s = 0; s < 3; s++) {
            answers.add(number(x.up(s, true)));
            answers.add(x.wake(s));
        }
    }

    /** Rounds from here on: by modes, lateness, pauses, waiting and by what was known before. */
    private static void lookAtRounds(TickKeeper x, List<Integer> answers) {
        for (int s = 0; s < 2; s++) {
            answers.add(x.wake(s));
            for (int i = 0; i < 25; i++) {
                answers.add(x.deliver(0));
            }
        }
        for (int i = 0; i < 25; i++) {
            answers.add(x.deliver(x.letters() - 1));
        }
        for (int job = 0; job < 8; job++) {
            answers.add(x.register(1, job, 0));
            answers.add(x.register(1, job, 2));
            answers.add(x.register(0, job, 5));
            answers.add(x.register(0, job, 7));
        }
    }

    /** Which minutes the time may become, and whether it is what it was. */
    private static void lookAtTime(TickKeeper x, List<Integer> answers) {
        int[] minutes = {0, 1999, 2000, 2999, 3000, 4999, 5000};
        for (int minute : minutes) {
            answers.add(number(x.time(minute)));
        }
        x.mask(7, 0, ALL, ALL);
        x.mask(7, 1, 0, ALL);
        x.set(7, 2, 2);
        x.set(7, 4, 0);
        while (x.letters() > 0 && answers.size() < 200) {
            answers.add(number(x.lose(0)));
        }
        answers.add(x.wake(0));
        answers.add(x.deliver(x.letters() - 1));
        answers.add(x.deliver(x.letters() - 1));
        answers.add(x.register(0, 7, 7));
    }
}
