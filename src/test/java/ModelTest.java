import java.util.Random;

/** Runs drawn by fixed seeds, in which TickKeeper and the plain model must give the same answers. */
public final class ModelTest {
    private static final int LAST = PlainModel.LAST;
    private static final Check check = new Check();

    public static void main(String[] args) {
        // A number lengthens the test: that many times the runs.
        int times = args.length > 0 ? Integer.parseInt(args[0]) : 1;
        for (int seed = 0; seed < 500 * times && check.isClean(); seed++) {
            calendarRun(seed);
        }
        for (int seed = 0; seed < 250 * times && check.isClean(); seed++) {
            letterRun(seed);
        }
        for (int seed = 0; seed < 60 * times && check.isClean(); seed++) {
            mixedRun(seed);
        }
        for (int seed = 0; seed < 12 * times && check.isClean(); seed++) {
            longSearchRun(seed);
        }
        for (int seed = 0; seed < 200 * times && check.isClean(); seed++) {
            wildRun(seed);
        }
        check.end();
    }

    private static int between(Random random, int from, int to) {
        return from + random.nextInt(to - from + 1);
    }

    private static int clip(int minute) {
        return Math.max(0, Math.min(LAST, minute));
    }

    /** Many bits, few bits, one bit or all of them. */
    private static int bits(Random random) {
        switch (random.nextInt(5)) {
            case 0:
                return random.nextInt();
            case 1:
                return random.nextInt() & random.nextInt() & random.nextInt();
            case 2:
                return 1 << random.nextInt(32);
            case 3:
                return random.nextInt() | random.nextInt();
            default:
                return -1;
        }
    }

    /** Where the calendar has its edges: its beginning, its end, leap days, ends of years. */
    private static int someMinute(Random random) {
        int[] days = {0, 0, 0, 58, 59, 60, 365, 366, 790, 1155, 1520, 36524, 36524, 36524, 36465, 36159};
        return random.nextInt(3) == 0
            ? random.nextInt(LAST + 1)
            : clip(days[random.nextInt(days.length)] * 1440 + between(random, -1500, 1500));
    }

    private static int[] drawShifts(Random random, Pair pair, int zone, int around) {
        int[] minutes = new int[9];
        int minute = clip(around - random.nextInt(3000));
        int count = random.nextInt(10);
        for (int i = 0; i < count; i++) {
            int offset = random.nextInt(3) == 0 ? between(random, -902, 902) : 30 * between(random, -30, 30);
            pair.shift(zone, minute, offset);
            minutes[Math.min(i, 8)] = minute;
            minute += random.nextInt(4) == 0 ? between(random, 0, 5) : between(random, 1, 2500);
        }
        return minutes;
    }

    private static void drawRule(Random random, Pair pair, int job, boolean sparse) {
        if (random.nextInt(3) != 0) {
            pair.mask(job, 0, bits(random), bits(random));
        }
        if (random.nextInt(3) != 0) {
            pair.mask(job, 1, 0, bits(random));
        }
        if (sparse && random.nextInt(2) == 0) {
            pair.mask(job, 2, 0, random.nextInt(4) == 0 ? 1 : bits(random));
        }
        if (sparse && random.nextInt(3) == 0) {
            pair.mask(job, 3, 0, bits(random) | bits(random));
        }
        if (random.nextInt(3) == 0) {
            pair.mask(job, 4, 0, bits(random) | bits(random));
        }
        if (sparse && random.nextInt(3) == 0) {
            pair.nth(job, between(random, 0, 6), between(random, 0, 6));
        }
    }

    private static void calendarRun(int seed) {
        Random random = new Random(seed);
        Pair pair = new Pair("calendar run " + seed, check);
        int around = someMinute(random);
        int day = around / 1440;
        pair.set(0, 0, 1);
        int[] shifts = drawShifts(random, pair, 1, around);
        for (int i = random.nextInt(18); i > 0; i--) {
            pair.holiday(1, day + between(random, -12, 14));
        }
        pair.set(0, 1, random.nextInt(3));
        for (int round = 0; round < 4; round++) {
            drawRule(random, pair, 0, true);
            for (int i = 0; i < 25; i++) {
                int near = clip(shifts[random.nextInt(9)] + between(random, -3, 1900));
                pair.isDue(0, near);
                pair.isDue(0, clip(around + between(random, -3000, 3000)));
                pair.local(1, near);
            }
            for (int i = 0; i < 6; i++) {
                // The end is near, so that the model's search is short even if nothing is due.
                int late = LAST - random.nextInt(60000);
                int found = pair.due(0, around > LAST - 60000 ? around : late);
                if (found != -1 && random.nextInt(3) == 0) {
                    pair.except(0, found);
                }
            }
            walkDue(random, pair, clip(around - 3000));
        }
    }

    /** Due minutes one behind the other, by rules that are due often, so that each search is short. */
    private static void walkDue(Random random, Pair pair, int from) {
        pair.mask(0, 3, 0, -1);
        int minute = from;
        for (int i = 0; i < 12 && minute != -1 && minute < LAST - 5000; i++) {
            pair.mask(0, 2, 0, -1);
            pair.nth(0, 0, 0);
            pair.mask(0, 4, 0, 31 | random.nextInt(128));
            pair.mask(0, 1, 0, 1 << random.nextInt(24) | bits(random));
            pair.mask(0, 0, bits(random), bits(random) | 1 << random.nextInt(30));
            int found = pair.due(0, minute);
            if (found != -1 && random.nextInt(6) == 0) {
                pair.except(0, found);
                pair.due(0, minute);
            }
            minute = found == -1 ? -1 : found + between(random, 0, 400);
        }
    }

    /** Searches through years, and through the whole calendar without finding anything. */
    private static void longSearchRun(int seed) {
        Random random = new Random(seed);
        Pair pair = new Pair("long search run " + seed, check);
        pair.shift(0, random.nextInt(LAST), 60);
        pair.mask(0, 2, 0, 1 << between(random, 28, 31));
        pair.mask(0, 3, 0, seed % 3 == 0 ? 1 << 2 : 1 << between(random, 1, 12));
        pair.mask(0, 4, 0, 1 << between(random, 0, 6));
        if (seed % 2 == 0) {
            pair.nth(0, between(random, 0, 6), between(random, 4, 6));
        }
        pair.set(0, 1, seed / 2 % 2);
        int from = 0;
        for (int i = 0; i < 8 && from != -1; i++) {
            from = pair.due(0, from == 0 ? 0 : from + 1);
        }
    }

    private static void letterRun(int seed) {
        Random random = new Random(seed);
        Pair pair = new Pair("letter run " + seed, check);
        int start = random.nextInt(3) == 0 ? someMinute(random) : 0;
        for (int zone = 0; zone < 2; zone++) {
            drawShifts(random, pair, zone, start + 2000);
        }
        for (int job = 0; job < 8; job++) {
            drawJob(random, pair, job);
        }
        pair.time(start);
        int quiet = random.nextInt(12);
        while (pair.calls() < 512) {
            letterStep(random, pair, start, quiet);
            if (random.nextInt(25) == 0) {
                pair.compareAll();
            }
        }
        pair.compareAll();
    }

    private static void drawJob(Random random, Pair pair, int job) {
        if (random.nextInt(3) == 0) {
            pair.set(job, 4, 1);
            return;
        }
        pair.set(job, 0, random.nextInt(2));
        pair.set(job, 2, random.nextInt(3));
        int[] lateness = {0, 30, 1440, 5000, 100000};
        pair.set(job, 3, lateness[random.nextInt(5)]);
        drawRule(random, pair, job, false);
        if (random.nextInt(3) == 0) {
            pair.after(job, random.nextInt(8), true);
        }
    }

    private static void letterStep(Random random, Pair pair, int start, int quiet) {
        int waiting = pair.letters();
        int drawn = random.nextInt(100);
        int some = waiting == 0 ? 0 : random.nextInt(3) == 0 ? random.nextInt(waiting) : 0;
        if (drawn < 70 && waiting > 0) {
            pair.deliver(some);
        } else if (drawn < 80) {
            pair.wake(random.nextInt(3));
        } else if (drawn < 90) {
            pair.time(clip(start + pair.calls() * between(random, 0, 30)));
        } else if (drawn < 92 + quiet % 3) {
            pair.twin(some);
        } else if (drawn < 95) {
            pair.lose(some);
        } else if (drawn == 95) {
            pair.up(random.nextInt(3), random.nextInt(3) > 0);
        } else if (drawn == 96) {
            pair.desk(random.nextInt(2), random.nextInt(3) > 0);
        } else if (drawn == 97) {
            pair.after(random.nextInt(8), random.nextInt(8), random.nextBoolean());
        } else if (drawn == 98) {
            pair.set(random.nextInt(8), 4, random.nextInt(4) == 0 ? 1 : 0);
        } else {
            drawRule(random, pair, random.nextInt(8), false);
        }
    }

    /** Zones, rules and modes change too, while rounds are under way and letters wait. */
    private static void mixedRun(int seed) {
        Random random = new Random(seed);
        Pair pair = new Pair("mixed run " + seed, check);
        int start = random.nextInt(2) == 0 ? someMinute(random) : 0;
        for (int job = 0; job < 8; job++) {
            drawJob(random, pair, job);
        }
        pair.time(start);
        while (pair.calls() < 512) {
            if (random.nextInt(5) > 0) {
                letterStep(random, pair, start, 0);
            } else {
                settingStep(random, pair, clip(start + pair.calls() * 15), random.nextInt(8));
            }
            if (random.nextInt(25) == 0) {
                pair.compareAll();
            }
        }
        pair.compareAll();
    }

    private static void settingStep(Random random, Pair pair, int near, int job) {
        int zone = random.nextInt(2);
        switch (random.nextInt(10)) {
            case 0: pair.shift(zone, clip(near + between(random, -500, 900)), 60 * between(random, -15, 15)); break;
            case 1: pair.holiday(zone, near / 1440 + between(random, -4, 2)); break;
            case 2: pair.mask(job, 2, 0, random.nextInt() | random.nextInt() | random.nextInt()); break;
            case 3: pair.nth(job, between(random, 0, 6), random.nextInt(3) == 0 ? between(random, 1, 6) : 0); break;
            case 4: pair.set(job, 0, zone); break;
            case 5: pair.set(job, 1, random.nextInt(2)); break;
            case 6: pair.set(job, 2, random.nextInt(3)); break;
            case 7: pair.set(job, 3, random.nextInt(10) == 0 ? 100000 : random.nextInt(3000)); break;
            case 8: pair.except(job, pair.register(random.nextInt(3), job, 2)); break;
            default: pair.mask(job, 1, 0, -1); break;
        }
    }

    /** Any call with any arguments, most of them wrong. */
    private static void wildRun(int seed) {
        Random random = new Random(seed);
        Pair pair = new Pair("wild run " + seed, check);
        while (pair.calls() < 512) {
            int a = wild(random);
            int b = wild(random);
            int c = wild(random);
            wildCall(random, pair, a, b, c);
        }
        pair.compareAll();
    }

    private static int wild(Random random) {
        int[] odd = {Integer.MIN_VALUE, Integer.MAX_VALUE, LAST, LAST + 1, 36524, 36525, -900, -901, 900, 901, 100001};
        switch (random.nextInt(12)) {
            case 0:
                return odd[random.nextInt(odd.length)];
            case 1:
                return random.nextInt();
            case 2:
                return random.nextInt(100);
            default:
                return between(random, -1, 8);
        }
    }

    private static void wildCall(Random random, Pair pair, int a, int b, int c) {
        boolean on = random.nextBoolean();
        int late = random.nextInt(2) == 0 ? LAST - random.nextInt(3000) : b;
        switch (random.nextInt(22)) {
            case 0: pair.time(on ? a : random.nextInt(60000)); break;
            case 1: pair.shift(a, on ? b : late, c * 60); break;
            case 2: pair.holiday(a, b); break;
            case 3: pair.mask(a, b, c, random.nextInt()); break;
            case 4: pair.nth(a, b, c); break;
            case 5: pair.set(a, b, c); break;
            case 6: pair.except(a, b); break;
            case 7: pair.after(a, b, on); break;
            case 8: pair.isDue(a, late); break;
            case 9: pair.due(a, late < LAST - 3000 ? -late : late); break;
            case 10: pair.local(a, b); break;
            case 11: pair.wake(a); break;
            case 12: pair.up(a, on); break;
            case 13: pair.desk(a, on); break;
            case 14: pair.letters(); break;
            case 15: pair.deliver(a); break;
            case 16: pair.lose(a); break;
            case 17: pair.twin(a); break;
            case 18: pair.letter(a, b); break;
            case 19: pair.register(a, b, c); break;
            case 20: pair.effects(a); break;
            default: pair.effect(a, b, c); break;
        }
    }
}
