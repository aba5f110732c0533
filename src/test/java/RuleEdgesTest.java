/** The edges of rules, exceptions and due minutes (promises 5, 6, 8, 10, 11 and what is set of zones and MOVED). */
public final class RuleEdgesTest {
    private static final int LAST = 52595999;
    private static final int LAST_DAY = 36524;
    private static final int DAY = 1440;
    private static final int LOW = Integer.MIN_VALUE;
    private static final int HIGH = Integer.MAX_VALUE;
    private static final int ALL = -1;
    private static final int[] NO_JOB = {-1, 8, LOW, HIGH};
    private static final int[] NO_MINUTE = {-1, LAST + 1, LOW, HIGH};
    private static final Check check = new Check();

    public static void main(String[] args) {
        rulesAtFirst();
        jobs();
        masksThereAre();
        minutesFromHighAndLow();
        hours();
        daysOfTheMonth();
        months();
        weekdays();
        highMeansNothing();
        emptyMasks();
        nthArguments();
        nthPlaces();
        nthFifth();
        nthLast();
        nthNone();
        zonesOfJobs();
        movedOrNot();
        whatIsSet();
        exceptionsThereAre();
        exceptionTwice();
        eightExceptions();
        fitsByAllOfIt();
        lastDayOfTheMonth();
        moved();
        movedOverTwenty();
        movedOneBehindTheOther();
        movedBehindTheLast();
        movedFromBeforeTheFirst();
        minuteOfAJob();
        comesTwice();
        comesTwiceFromAShiftOn();
        comesThreeTimes();
        skipped();
        skippedByHowMuch();
        skippedAtTheEnds();
        skippedMost();
        exceptionAtAShift();
        questionsOfNothing();
        firstAndLastDue();
        firstOfALaterDay();
        check.end();
    }

    /** A job is due each day at one local minute. */
    private static TickKeeper daily(int minuteOfDay) {
        TickKeeper x = new TickKeeper();
        int minute = minuteOfDay % 60;
        x.mask(0, 0, minute < 30 ? 0 : 1 << minute - 30, minute < 30 ? 1 << minute : 0);
        x.mask(0, 1, 0, 1 << minuteOfDay / 60);
        return x;
    }

    private static TickKeeper everyMinute() {
        TickKeeper x = new TickKeeper();
        x.mask(0, 0, ALL, ALL);
        x.mask(0, 1, 0, ALL);
        return x;
    }

    /** The first due minutes of job 0, one behind the other, from one on. */
    private static void areDue(String name, TickKeeper x, int from, int... want) {
        int next = from;
        for (int i = 0; i < want.length; i++) {
            int found = x.due(0, next);
            check.is(name + ", due " + i + " from " + from, found, want[i]);
            if (found == -1) {
                return;
            }
            check.yes(name + ", isDue " + found, x.isDue(0, found));
            next = found + 1;
        }
    }

    private static void rulesAtFirst() {
        check.of("at first all bits, of MINUTES and HOURS only bit 0; NTH .. at first none; a zone (0); MOVED (no)");
        for (int job = 0; job < 8; job++) {
            TickKeeper x = new TickKeeper();
            x.shift(1, 0, 60);
            for (int day = 0; day < 200; day++) {
                check.is("job " + job + ", day " + day, x.due(job, DAY * day), DAY * day);
                check.is("job " + job + ", behind day " + day, x.due(job, DAY * day + 1), DAY * (day + 1));
            }
        }
    }

    private static void jobs() {
        check.of("JOBS 0 .. 7: false if there is no such job");
        for (int job : NO_JOB) {
            TickKeeper x = new TickKeeper();
            check.no("mask of " + job, x.mask(job, 4, 0, 1));
            check.no("nth of " + job, x.nth(job, 0, 1));
            check.no("set of " + job, x.set(job, 1, 1));
            check.no("except of " + job, x.except(job, 0));
            check.no("after of " + job, x.after(job, 0, true));
            check.no("after for " + job, x.after(0, job, true));
            for (int other = 0; other < 8; other++) {
                check.is("no job is changed by those of " + job, x.due(other, 0), 0);
            }
        }
        TickKeeper x = new TickKeeper();
        for (int job = 0; job < 8; job++) {
            check.yes("mask of " + job, x.mask(job, 1, 0, 1 << job));
        }
        for (int job = 0; job < 8; job++) {
            check.is("each has its own", x.due(job, 0), 60 * job);
        }
    }

    private static void masksThereAre() {
        check.of("False if there is no such .. mask");
        int[] wrong = {-1, 5, LOW, HIGH};
        for (int mask : wrong) {
            TickKeeper x = new TickKeeper();
            check.no("mask " + mask, x.mask(0, mask, 0, 0));
            areDue("not changed by " + mask, x, 0, 0, DAY, 2 * DAY);
        }
        for (int mask = 0; mask < 5; mask++) {
            check.yes("mask " + mask, new TickKeeper().mask(0, mask, 0, 0));
        }
    }

    private static void minutesFromHighAndLow() {
        check.of("0 MINUTES (bits 30 .. 59 of high's lowest 30, the others of low's)");
        TickKeeper x = new TickKeeper();
        x.mask(0, 0, 0, 1);
        areDue("low's bit 0", x, 0, 0, DAY);
        x.mask(0, 0, 0, 1 << 29);
        areDue("low's bit 29", x, 0, 29, DAY + 29);
        x.mask(0, 0, 1, 0);
        areDue("high's bit 0", x, 0, 30, DAY + 30);
        x.mask(0, 0, 1 << 29, 0);
        areDue("high's bit 29", x, 0, 59, DAY + 59);
        x.mask(0, 0, 1, 1);
        areDue("both", x, 0, 0, 30, DAY);
        check.of("bits that mean nothing are passed over");
        int[] nothing = {1 << 30, 1 << 31, 3 << 30};
        for (int bits : nothing) {
            check.yes("it is a mask", x.mask(0, 0, bits, bits));
            areDue("bits 30 and 31 alone", x, 0, -1);
            x.mask(0, 0, bits, bits | 2);
            areDue("beside low's bit 1", x, 0, 1, DAY + 1);
            x.mask(0, 0, bits | 2, bits);
            areDue("beside high's bit 1", x, 0, 31, DAY + 31);
        }
    }

    private static void hours() {
        check.of("HOURS (24)");
        TickKeeper x = new TickKeeper();
        x.mask(0, 1, 0, 1);
        areDue("bit 0", x, 0, 0, DAY);
        x.mask(0, 1, 0, 1 << 23);
        areDue("bit 23", x, 0, 1380, DAY + 1380);
        for (int bit = 24; bit < 32; bit++) {
            check.yes("it is a mask", x.mask(0, 1, 0, 1 << bit));
            areDue("bit " + bit + " means nothing", x, 0, -1);
            x.mask(0, 1, 0, 1 << bit | 1 << 7);
            areDue("bit " + bit + " beside bit 7", x, 0, 420, DAY + 420);
        }
    }

    private static void daysOfTheMonth() {
        check.of("DAYS of the month (bits 1 .. 31; bit 0: the last one)");
        TickKeeper x = new TickKeeper();
        x.mask(0, 2, 0, 1 << 1);
        areDue("bit 1", x, 0, 0, 31 * DAY, 60 * DAY);
        x.mask(0, 2, 0, 1 << 31);
        areDue("bit 31, in months that have such a day", x, 0, 30 * DAY, 90 * DAY, 151 * DAY);
        x.mask(0, 2, 0, 1 << 30);
        areDue("bit 30, but in February", x, 0, 29 * DAY, 89 * DAY, 120 * DAY);
        x.mask(0, 2, 0, 1);
        areDue("bit 0", x, 0, 30 * DAY, 59 * DAY, 90 * DAY, 120 * DAY);
        x.mask(0, 2, 0, 1 | 1 << 31);
        areDue("bits 0 and 31 mean one day in January", x, 0, 30 * DAY, 59 * DAY, 90 * DAY);
    }

    private static void months() {
        check.of("MONTHS (bits 1 .. 12)");
        TickKeeper x = new TickKeeper();
        x.mask(0, 2, 0, 1 << 1);
        x.mask(0, 3, 0, 1 << 1);
        areDue("bit 1", x, 0, 0, 366 * DAY);
        x.mask(0, 3, 0, 1 << 12);
        areDue("bit 12", x, 0, 335 * DAY, (366 + 334) * DAY);
        int[] nothing = {1, 1 << 13, 1 << 14, 1 << 30, 1 << 31, ~0x1FFE};
        for (int bits : nothing) {
            check.yes("it is a mask", x.mask(0, 3, 0, bits));
            areDue("bits that mean nothing", x, 0, -1);
            x.mask(0, 3, 0, bits | 1 << 2);
            areDue("beside February", x, 0, 31 * DAY, (366 + 31) * DAY);
        }
    }

    private static void weekdays() {
        check.of("WEEKDAYS (7)");
        TickKeeper x = new TickKeeper();
        x.mask(0, 4, 0, 1);
        areDue("bit 0, Monday", x, 0, 2 * DAY, 9 * DAY);
        x.mask(0, 4, 0, 1 << 6);
        areDue("bit 6, Sunday", x, 0, DAY, 8 * DAY);
        for (int bit = 7; bit < 32; bit++) {
            check.yes("it is a mask", x.mask(0, 4, 0, 1 << bit));
            areDue("bit " + bit + " means nothing", x, 0, -1);
            x.mask(0, 4, 0, 1 << bit | 1 << 3);
            areDue("bit " + bit + " beside Thursday", x, 0, 5 * DAY, 12 * DAY);
        }
    }

    private static void highMeansNothing() {
        check.of("1 HOURS, 2 DAYS, 3 MONTHS, 4 WEEKDAYS (of low alone");
        for (int mask = 1; mask < 5; mask++) {
            TickKeeper x = new TickKeeper();
            check.yes("mask " + mask, x.mask(0, mask, ALL, 0));
            areDue("high's bits of mask " + mask, x, 0, -1);
            x.mask(0, mask, 0, ALL);
            check.is("low's bits of mask " + mask, x.due(0, 0), 0);
        }
    }

    private static void emptyMasks() {
        check.of("masks: empty");
        for (int mask = 0; mask < 5; mask++) {
            TickKeeper x = everyMinute();
            check.yes("empty", x.mask(0, mask, 0, 0));
            check.is("due with an empty mask " + mask, x.due(0, 0), -1);
            check.no("isDue with an empty mask " + mask, x.isDue(0, 0));
            check.is("nothing to wake for in job 0", x.wake(0), 7);
            x.mask(0, mask, ALL, ALL);
            check.is("full again", x.due(0, 0), 0);
        }
    }

    private static void nthArguments() {
        check.of("False if there is no such job, weekday or n");
        int[] wrong = {-1, 7, 8, LOW, HIGH};
        for (int value : wrong) {
            for (int n = 0; n <= 6; n++) {
                TickKeeper x = new TickKeeper();
                check.no("weekday " + value + " with n " + n, x.nth(0, value, n));
                check.no("n " + value + " of weekday " + n, x.nth(0, n, value));
                areDue("nothing is changed", x, 0, 0, DAY, 2 * DAY);
                x.nth(0, 2, 1);
                check.no("weekday " + value + " in the place of another", x.nth(0, value, n));
                check.no("n " + value + " in the place of another", x.nth(0, n, value));
                areDue("the first Wednesday still", x, 0, 4 * DAY, 31 * DAY + DAY);
            }
        }
        for (int n = 0; n <= 6; n++) {
            check.yes("Monday, n " + n, new TickKeeper().nth(0, 0, n));
            check.yes("Sunday, n " + n, new TickKeeper().nth(0, 6, n));
        }
    }

    private static void nthPlaces() {
        check.of("NTH: a weekday and n, 1 .. 5 (the n-th one in its month)");
        // January 2000 began with a Saturday: Saturdays are 1, 8 .., Fridays 7, 14 ..
        for (int n = 1; n <= 4; n++) {
            TickKeeper x = new TickKeeper();
            x.nth(0, 5, n);
            check.is("Saturday " + n + ", the first that can be", x.due(0, 0), (7 * n - 7) * DAY);
            x.nth(0, 4, n);
            check.is("Friday " + n + ", the last that can be", x.due(0, 0), (7 * n - 1) * DAY);
            check.is("the next one is of another month", x.due(0, (7 * n - 1) * DAY + 1), (31 + 7 * n - 4) * DAY);
        }
    }

    private static void nthFifth() {
        check.of("the n-th one in its month: a fifth one");
        TickKeeper x = new TickKeeper();
        x.nth(0, 5, 5);
        areDue("Saturdays: 29 January, 29 April, 29 July", x, 0, 28 * DAY, 119 * DAY, 210 * DAY);
        x.nth(0, 0, 5);
        areDue("Mondays: 31 January, 29 May, 31 July", x, 0, 30 * DAY, 149 * DAY, 212 * DAY);
        x.nth(0, 1, 5);
        areDue("Tuesdays: 29 February, 30 May", x, 0, 59 * DAY, 150 * DAY);
        x.mask(0, 3, 0, 1 << 2);
        // 29 February is a Tuesday again in 2028.
        areDue("in Februaries alone", x, 0, 59 * DAY, (59 + 28 * 365 + 7) * DAY);
        x.nth(0, 4, 5);
        x.mask(0, 3, 0, 1 << 1);
        check.no("28 January is a fourth Friday", x.isDue(0, 27 * DAY));
        check.is("no January has one before 31 January 2003", x.due(0, 0), (366 + 2 * 365 + 30) * DAY);
    }

    private static void nthLast() {
        check.of("or 6 (the last one)");
        // The month's last day and six days before it, in months of 31, 29, 30 and 28 days.
        int[] weekdaysOfLast = {0, 1, 6, 2};
        int[] lastDays = {30, 59, 120, 424};
        int[] firstDays = {0, 31, 91, 397};
        for (int i = 0; i < 4; i++) {
            TickKeeper x = new TickKeeper();
            x.nth(0, weekdaysOfLast[i], 6);
            check.is("on the last day", x.due(0, firstDays[i] * DAY), lastDays[i] * DAY);
            x.nth(0, (weekdaysOfLast[i] + 1) % 7, 6);
            check.is("six days before it", x.due(0, firstDays[i] * DAY), (lastDays[i] - 6) * DAY);
            check.no("seven days earlier", x.isDue(0, (lastDays[i] - 13) * DAY));
        }
    }

    private static void nthNone() {
        check.of("The NTH of a job; n 0: none");
        TickKeeper x = new TickKeeper();
        x.nth(0, 0, 3);
        check.is("the third Monday", x.due(0, 0), 16 * DAY);
        check.yes("none, of another weekday", x.nth(0, 6, 0));
        areDue("every day", x, 0, 0, DAY, 2 * DAY);
        check.yes("none twice", x.nth(0, 0, 0));
        check.is("another job has none", x.due(1, DAY), DAY);
    }

    private static void zonesOfJobs() {
        check.of("Of a job: 0 zone. False if there is no such .. value");
        TickKeeper x = new TickKeeper();
        for (int zone = 0; zone < 4; zone++) {
            x.shift(zone, 0, -zone - 1);
        }
        for (int zone = 0; zone < 4; zone++) {
            check.yes("zone " + zone, x.set(0, 0, zone));
            check.is("midnight of zone " + zone, x.due(0, 0), zone + 1);
            int[] wrong = {-1, 4, LOW, HIGH};
            for (int value : wrong) {
                check.no("zone " + value, x.set(0, 0, value));
            }
            check.is("zone " + zone + " still", x.due(0, 0), zone + 1);
        }
        check.is("another job has zone 0", x.due(1, 0), 1);
    }

    private static void movedOrNot() {
        check.of("Of a job: 1 whether free days are MOVED (not 0)");
        int[] values = {1, -1, 2, LOW, HIGH};
        for (int value : values) {
            TickKeeper x = new TickKeeper();
            check.is("not at first", x.due(0, 0), 0);
            check.yes("value " + value, x.set(0, 1, value));
            check.is("moved by " + value, x.due(0, 0), 2 * DAY);
            check.is("another job isn't", x.due(1, 0), 0);
            check.yes("value 0", x.set(0, 1, 0));
            check.is("not moved", x.due(0, 0), 0);
        }
    }

    private static void whatIsSet() {
        check.of("False if there is no such .. what");
        int[] wrong = {-1, 5, LOW, HIGH};
        for (int what : wrong) {
            TickKeeper x = new TickKeeper();
            x.shift(1, 0, 60);
            check.no("what " + what, x.set(0, what, 1));
            areDue("neither zone nor MOVED is changed", x, 0, 0, DAY);
            check.is("nor is it paused", x.wake(0), 8);
        }
    }

    private static void exceptionsThereAre() {
        check.of("A minute becomes an exception; false if there is no such job or minute");
        TickKeeper x = everyMinute();
        for (int minute : NO_MINUTE) {
            check.no("minute " + minute, x.except(0, minute));
        }
        check.yes("the first one is due", x.isDue(0, 0));
        check.yes("the first one", x.except(0, 0));
        check.no("it is not due", x.isDue(0, 0));
        check.is("the second one is", x.due(0, 0), 1);
        check.yes("the last one is due", x.isDue(0, LAST));
        check.yes("the last one", x.except(0, LAST));
        check.no("it is not due", x.isDue(0, LAST));
        check.is("nothing is left there", x.due(0, LAST), -1);
        for (int i = 1; i <= 6; i++) {
            check.yes("the refused ones take no room", x.except(0, 100 * i));
        }
    }

    private static void exceptionTwice() {
        check.of("false if .. it is one");
        TickKeeper x = new TickKeeper();
        for (int i = 0; i < 7; i++) {
            // Half of them would not be due anyway.
            check.yes("once", x.except(0, 720 * i));
            check.no("twice", x.except(0, 720 * i));
            check.no("the first one twice", x.except(0, 0));
        }
        check.yes("what was refused takes no room", x.except(0, 9999));
        check.no("of 8, the last one twice", x.except(0, 9999));
        check.is("days 0 to 3 are exceptions", x.due(0, 0), 4 * DAY);
        check.yes("another job's", x.except(1, 0));
    }

    private static void eightExceptions() {
        check.of("EXCEPTIONS, at most 8 minutes: false if .. there are 8");
        TickKeeper x = everyMinute();
        for (int i = 0; i < 8; i++) {
            check.yes("exception " + i, x.except(0, 50 + i));
        }
        check.no("a ninth", x.except(0, 58));
        check.yes("it is due", x.isDue(0, 58));
        areDue("over all eight", x, 49, 49, 58, 59);
        check.yes("another job has room", x.except(7, 58));
    }

    private static void fitsByAllOfIt() {
        check.of("A local day FITS if its month's and weekday's bits are set, its day's bit .., and it is the NTH");
        // 14 February 2000 is the second Monday of its month, day 44.
        int[] masks = {2, 3, 4};
        int[] bits = {1 << 14, 1 << 2, 1};
        for (int without = -1; without < 3; without++) {
            TickKeeper x = new TickKeeper();
            x.nth(0, 0, 2);
            for (int i = 0; i < 3; i++) {
                x.mask(0, masks[i], 0, i == without ? ~bits[i] & ~1 | (i == 2 ? 2 : 0) : bits[i]);
            }
            check.is("without " + without, x.isDue(0, 44 * DAY) ? 1 : 0, without == -1 ? 1 : 0);
        }
        int[] weekdays = {0, 0, 0, 1};
        int[] places = {2, 1, 3, 2};
        for (int i = 0; i < 4; i++) {
            TickKeeper x = new TickKeeper();
            x.nth(0, weekdays[i], places[i]);
            check.is("NTH " + i, x.isDue(0, 44 * DAY) ? 1 : 0, i == 0 ? 1 : 0);
        }
    }

    private static void lastDayOfTheMonth() {
        check.of("its day's bit or, if it is the month's last one, bit 0");
        int[] lastDays = {30, 59, 90, 120, 424};
        TickKeeper x = new TickKeeper();
        x.mask(0, 2, 0, 1);
        for (int day : lastDays) {
            check.no("one before it", x.isDue(0, (day - 1) * DAY));
            check.yes("the last one", x.isDue(0, day * DAY));
            check.no("the next month's first one", x.isDue(0, (day + 1) * DAY));
        }
        x.mask(0, 2, 0, 1 << 28);
        check.no("29 February is no 28th", x.isDue(0, 59 * DAY));
        check.yes("28 February 2000, not a last one", x.isDue(0, 58 * DAY));
        check.yes("28 February 2001, a last one, by its own bit", x.isDue(0, 424 * DAY));
    }

    private static void moved() {
        check.of("with MOVED: if it isn't free, and it fits, or one of the .. free days that lie directly before it");
        TickKeeper x = new TickKeeper();
        x.set(0, 1, 1);
        x.mask(0, 2, 0, 1 << 1 | 1 << 2);
        // 1 and 2 January 2000 are Saturday and Sunday: Monday stands for both, once.
        areDue("two free days", x, 0, 2 * DAY, 31 * DAY, 32 * DAY);
        x.mask(0, 4, 0, 1 << 5);
        areDue("fits by its own weekday, not by Monday's", x, 0, 2 * DAY, 93 * DAY);
        x.set(0, 1, 0);
        areDue("not moved", x, 0, 0, 91 * DAY);
    }

    /** Of January 2000 the days from one on up to the 31st (a Monday) become free. */
    private static TickKeeper freeFrom(int first) {
        TickKeeper x = new TickKeeper();
        for (int day = first; day <= 30; day++) {
            if (day % 7 > 1) {
                check.yes("a holiday", x.holiday(0, day));
            }
        }
        x.set(0, 1, 1);
        x.mask(0, 3, 0, 1 << 1);
        return x;
    }

    private static void movedOverTwenty() {
        check.of("one of the up to 20 free days that lie directly before it, one behind the other, fits");
        TickKeeper x = freeFrom(9);
        for (int back = 1; back <= 22; back++) {
            x.mask(0, 2, 0, 1 << 32 - back);
            check.is(back + " days back", x.isDue(0, 31 * DAY) ? 1 : 0, back <= 20 ? 1 : 0);
            check.no("the free day itself", x.isDue(0, (31 - back) * DAY));
        }
        x.mask(0, 2, 0, 1 << 11);
        check.is("21 days back: not in 2000", x.due(0, 0), (366 + 10) * DAY);
        x.mask(0, 2, 0, 1 << 12);
        check.is("20 days back", x.due(0, 0), 31 * DAY);
    }

    private static void movedOneBehindTheOther() {
        check.of("that lie directly before it, one behind the other");
        TickKeeper x = new TickKeeper();
        x.set(0, 1, 1);
        // Saturday 8 and Sunday 9 January, Monday 10 works, Tuesday 11 is a holiday.
        x.holiday(0, 10);
        x.mask(0, 2, 0, 1 << 8);
        x.mask(0, 3, 0, 1 << 1);
        check.yes("Monday for Saturday", x.isDue(0, 9 * DAY));
        check.no("not Wednesday: a day that isn't free lies between", x.isDue(0, 11 * DAY));
        x.mask(0, 2, 0, 1 << 11);
        check.yes("Wednesday for Tuesday", x.isDue(0, 11 * DAY));
        check.no("once only", x.isDue(0, 12 * DAY));
        x.mask(0, 2, 0, 1 << 10);
        check.yes("Monday for itself", x.isDue(0, 9 * DAY));
        check.no("Wednesday not for Monday, which isn't free", x.isDue(0, 11 * DAY));
    }

    private static void movedBehindTheLast() {
        check.of("MOVED, behind the last day of 2099");
        TickKeeper x = new TickKeeper();
        x.set(0, 1, 1);
        // 31 December 2099 is a Thursday; 21 days up to it become free.
        for (int day = LAST_DAY - 20; day <= LAST_DAY; day++) {
            if (day % 7 > 1) {
                check.yes("a holiday", x.holiday(0, day));
            }
        }
        x.mask(0, 3, 0, 1 << 12);
        x.shift(0, DAY * LAST_DAY - 1, 900);
        for (int back = 1; back <= 21; back++) {
            x.mask(0, 2, 0, 1 << 32 - back);
            check.is(back + " days back", x.due(0, LAST - 5 * DAY), back <= 20 ? LAST - 899 : -1);
        }
    }

    private static void movedFromBeforeTheFirst() {
        check.of("MOVED, days before the first");
        TickKeeper x = new TickKeeper();
        x.set(0, 1, 1);
        x.mask(0, 3, 0, 1 << 12);
        check.no("31 December 1999, a Friday, is not free: Monday doesn't stand for it", x.isDue(0, 2 * DAY));
        x.mask(0, 3, 0, 1 << 1);
        check.yes("Monday stands for the first two days of all", x.isDue(0, 2 * DAY));
    }

    private static void minuteOfAJob() {
        check.of("A local minute is a job's if its day is, and its hour's and minute's bits are set");
        TickKeeper x = daily(615);
        x.mask(0, 4, 0, 1 << 6);
        check.yes("day, hour and minute", x.isDue(0, DAY + 615));
        check.no("another day", x.isDue(0, 615));
        check.no("an hour before", x.isDue(0, DAY + 555));
        check.no("an hour behind", x.isDue(0, DAY + 675));
        check.no("a minute before", x.isDue(0, DAY + 614));
        check.no("a minute behind", x.isDue(0, DAY + 616));
        TickKeeper y = daily(DAY - 1);
        areDue("the last minute of the day", y, 0, DAY - 1, 2 * DAY - 1);
    }

    private static void comesTwice() {
        check.of("its local minute is the job's and no minute before it has the same local minute");
        TickKeeper x = everyMinute();
        x.shift(0, 5000, -60);
        areDue("up to the shift", x, 4998, 4998, 4999, 5060, 5061);
        for (int minute = 5000; minute < 5060; minute++) {
            check.no("the second time", x.isDue(0, minute));
        }
        TickKeeper y = everyMinute();
        y.shift(0, 5000, -1);
        areDue("back by one minute", y, 4999, 4999, 5001, 5002);
        TickKeeper z = everyMinute();
        z.shift(0, 5000, 900);
        z.shift(0, 6000, -900);
        // Local 5900 .. 6899 were from the shift on; local 5100 .. 5899 were skipped and are new.
        areDue("back by 1800", z, 5999, 5999, 6000, 6001);
        check.yes("the last one that was skipped before", z.isDue(0, 6799));
        check.no("the first one that was there", z.isDue(0, 6800));
        check.no("the last one that was there", z.isDue(0, 7799));
        check.yes("the first one that is new", z.isDue(0, 7800));
    }

    private static void comesTwiceFromAShiftOn() {
        check.of("no minute before it has the same local minute: the first and last one between two shifts");
        TickKeeper x = everyMinute();
        x.shift(0, 1000, 200);
        x.shift(0, 1100, 0);
        check.yes("one before the first, which was only skipped", x.isDue(0, 1199));
        check.no("the first one between the shifts", x.isDue(0, 1200));
        check.no("the last one between the shifts", x.isDue(0, 1299));
        check.yes("one behind the last", x.isDue(0, 1300));
        areDue("over them", x, 1199, 1199, 1300, 1301);
        TickKeeper y = everyMinute();
        y.shift(0, 1000, 60);
        y.shift(0, 1001, 0);
        // One minute alone, local 1060, lies between the shifts.
        areDue("a shift of one minute", y, 1000, 1000, 1001, 1002);
        areDue("what it had is not due again", y, 1059, 1059, 1061);
        TickKeeper z = everyMinute();
        z.shift(0, 10, -10);
        areDue("the very first local minute again", z, 9, 9, 20, 21);
    }

    private static void comesThreeTimes() {
        check.of("local minutes that come more than twice");
        TickKeeper x = daily(600);
        x.shift(0, 620, -40);
        x.shift(0, 660, -80);
        // Local 10:00 is there at 600, 640 and 680.
        areDue("the first time only", x, 0, 600, DAY + 680);
        check.no("the second time", x.isDue(0, 640));
        check.no("the third time", x.isDue(0, 680));
    }

    private static void skipped() {
        check.of("it is a shift's minute, local minutes are skipped there .. and one of the skipped ones is the job's");
        // Local 1000 .. 1059 are skipped: 999 is followed by 1060.
        int[] locals = {998, 999, 1000, 1001, 1030, 1058, 1059, 1060, 1061};
        int[] dues = {998, 999, 1000, 1000, 1000, 1000, 1000, 1000, 1001};
        for (int i = 0; i < locals.length; i++) {
            TickKeeper x = daily(locals[i]);
            x.shift(0, 1000, 60);
            areDue("local " + locals[i], x, 0, dues[i], DAY + locals[i] - 60);
        }
        TickKeeper y = daily(1030);
        y.mask(0, 2, 0, ~(1 << 1));
        y.shift(0, 1000, 60);
        check.no("skipped, but its day is not the job's", y.isDue(0, 1000));
        TickKeeper z = daily(1030);
        z.shift(1, 1000, 60);
        check.no("another zone's shift", z.isDue(0, 1000));
    }

    private static void skippedByHowMuch() {
        check.of("the local minute goes up by more than 1 from the minute before");
        int[] offsets = {-1, 0, 1, 2};
        for (int offset : offsets) {
            TickKeeper x = daily(1000);
            x.shift(0, 1000, offset);
            // By 0 (it stands still), by 1 as always, by 2 and by 3.
            check.is("offset " + offset, x.isDue(0, 1000) ? 1 : 0, offset < 0 ? 0 : 1);
            TickKeeper y = daily(1001);
            y.shift(0, 1000, offset);
            check.is("one later, offset " + offset, y.due(0, 0), offset > 0 ? 1000 : 1001 - offset);
            TickKeeper z = daily(999);
            z.shift(0, 1000, offset);
            check.is("one before, offset " + offset, z.due(0, 0), 999);
            check.no("not again, offset " + offset, z.isDue(0, 1000));
        }
        TickKeeper same = daily(1000);
        same.shift(0, 500, 60);
        same.shift(0, 939, 60);
        check.no("a second shift by the same offset skips nothing", same.isDue(0, 939));
        check.yes("as always", same.isDue(0, 940));
    }

    private static void skippedAtTheEnds() {
        check.of("a shift at the first and the last minutes");
        TickKeeper x = daily(30);
        x.shift(0, 0, 60);
        check.no("at 0 there is no minute before", x.isDue(0, 0));
        areDue("the next day's", x, 0, DAY - 30);
        TickKeeper y = daily(30);
        y.shift(0, 1, 60);
        areDue("at 1, local 1 .. 60 are skipped", y, 0, 1, DAY - 30);
        TickKeeper first = daily(0);
        first.shift(0, 1, 60);
        areDue("local 0 was there", first, 0, 0, DAY - 60);
        TickKeeper end = daily(15);
        end.shift(0, LAST, 900);
        check.is("at the last one, over midnight", end.due(0, LAST - 1), LAST);
        TickKeeper behind = daily(900);
        behind.shift(0, LAST, 900);
        check.is("one that is neither there nor skipped", behind.due(0, LAST - 1), -1);
    }

    private static void skippedMost() {
        check.of("offsets - 900 .. 900: 1800 local minutes are skipped");
        // Local 9099 is followed by 10900: the last of day 6 and the first of day 7 are skipped.
        int[] locals = {9099, 9100, 10899, 10900, 10901};
        int[] dues = {9999, 10000, 10000, 10000, 10001};
        for (int i = 0; i < 5; i++) {
            TickKeeper x = daily(locals[i] % DAY);
            x.mask(0, 2, 0, 1 << locals[i] / DAY + 1);
            x.mask(0, 3, 0, 1 << 1);
            x.shift(0, 5000, -900);
            x.shift(0, 10000, 900);
            check.is("local " + locals[i], x.due(0, 0), dues[i]);
        }
    }

    private static void exceptionAtAShift() {
        check.of("A minute is DUE if it is no exception, and one of these");
        TickKeeper x = everyMinute();
        x.shift(0, 1000, 60);
        x.except(0, 1000);
        areDue("skipped and its own, but an exception", x, 999, 999, 1001);
        TickKeeper y = daily(1030);
        y.shift(0, 1000, 60);
        y.except(0, 1000);
        areDue("what is skipped there is not made up for", y, 0, DAY + 970);
        TickKeeper z = daily(1030);
        z.shift(0, 1000, 60);
        z.except(0, 1030);
        check.yes("exceptions are minutes, not local ones", z.isDue(0, 1000));
    }

    private static void questionsOfNothing() {
        check.of("false (NONE) if there is no such job or minute");
        TickKeeper x = everyMinute();
        x.shift(0, 0, 60);
        for (int minute : NO_MINUTE) {
            check.no("isDue at " + minute, x.isDue(0, minute));
            check.is("due from " + minute, x.due(0, minute), -1);
        }
        for (int job : NO_JOB) {
            check.no("isDue of " + job, x.isDue(job, 0));
            check.is("due of " + job, x.due(job, 0), -1);
        }
    }

    private static void firstAndLastDue() {
        check.of("The first DUE minute from one on; NONE if there is none");
        TickKeeper x = everyMinute();
        check.yes("the first minute of all", x.isDue(0, 0));
        check.is("from the first of all", x.due(0, 0), 0);
        check.yes("the last minute of all", x.isDue(0, LAST));
        check.is("from the last of all", x.due(0, LAST), LAST);
        TickKeeper y = daily(700);
        areDue("from itself on", y, 700, 700);
        areDue("from one behind it", y, 701, DAY + 700);
        check.is("the last one from itself", y.due(0, LAST - 739), LAST - 739);
        check.is("none behind the last one", y.due(0, LAST - 738), -1);
        y.mask(0, 2, 0, 1 << 31);
        y.mask(0, 3, 0, 1 << 4);
        check.is("none at all: 31 April", y.due(0, 0), -1);
    }

    private static void firstOfALaterDay() {
        check.of("The first DUE minute from one on: on a later day");
        TickKeeper x = new TickKeeper();
        x.mask(0, 0, 0, 1 | 1 << 5);
        x.mask(0, 1, 0, 1 | 1 << 8 | 1 << 12);
        x.mask(0, 4, 0, 1);
        int monday = 2 * DAY;
        areDue("from Saturday, at ten", x, 600, monday, monday + 5, monday + 480, monday + 485, monday + 720);
        areDue("from Sunday's last minute", x, monday - 1, monday, monday + 5);
        areDue("from Monday, at ten", x, monday + 600, monday + 720, monday + 725, monday + 7 * DAY);
        areDue("from behind Monday's last one", x, monday + 726, monday + 7 * DAY, monday + 7 * DAY + 5);
    }
}
