/** The edges of time, zones and holidays (promises 1 to 4 and 12, and the Terms that they rest on). */
public final class TimeEdgesTest {
    private static final int LAST = 52595999;
    private static final int LAST_DAY = 36524;
    private static final int LOW = Integer.MIN_VALUE;
    private static final int HIGH = Integer.MAX_VALUE;
    private static final int ALL = -1;
    private static final Check check = new Check();

    public static void main(String[] args) {
        timeAtFirst();
        timeAtItsEnds();
        timeGoesForward();
        localWithoutAShift();
        localByShifts();
        localBelowZero();
        localOfNothing();
        zonesOfShifts();
        minutesOfShifts();
        offsets();
        eightShifts();
        risingMinutes();
        refusedShiftLeavesNoTrace();
        lengthOfADay();
        daysBeforeTheFirst();
        daysBehindTheLast();
        weekdays();
        holidaysAtTheEnds();
        holidayTwice();
        sixteenHolidays();
        zonesOfHolidays();
        freeDays();
        check.end();
    }

    /** Job 0 is due each minute of its days. */
    private static TickKeeper everyMinute() {
        TickKeeper x = new TickKeeper();
        x.mask(0, 0, ALL, ALL);
        x.mask(0, 1, 0, ALL);
        return x;
    }

    /** Each minute is due and claimed only at once, so that what is claimed tells the time. */
    private static TickKeeper clock() {
        TickKeeper x = everyMinute();
        x.set(0, 2, 2);
        for (int job = 1; job < 8; job++) {
            x.set(job, 4, 1);
        }
        return x;
    }

    private static int timeOf(TickKeeper x) {
        x.wake(0);
        x.deliver(x.letters() - 1);
        x.deliver(x.letters() - 1);
        return x.register(0, 0, 7);
    }

    private static void timeAtFirst() {
        check.of("TIME .. 0 .. 52595999, at first 0");
        check.is("the time of a new object", timeOf(clock()), 0);
        check.yes("it stays 0", clock().time(0));
    }

    private static void timeAtItsEnds() {
        check.of("The time becomes a minute; false if that is .. beyond the last one");
        int[] wrong = {-1, LOW, LAST + 1, HIGH};
        for (int minute : wrong) {
            TickKeeper x = clock();
            x.time(70);
            check.no("time " + minute, x.time(minute));
            check.is("the time after a refused " + minute, timeOf(x), 70);
        }
        TickKeeper x = clock();
        check.yes("one before the last", x.time(LAST - 1));
        check.yes("the last", x.time(LAST));
        check.is("the time at the end", timeOf(x), LAST);
        check.no("one beyond, at the end", x.time(LAST + 1));
        check.yes("the last again", x.time(LAST));
    }

    private static void timeGoesForward() {
        check.of("false if that is below it");
        TickKeeper x = clock();
        check.yes("to 5000", x.time(5000));
        check.no("one below it", x.time(4999));
        check.no("the first", x.time(0));
        check.is("refused calls changed nothing", timeOf(x), 5000);
        check.yes("it itself", x.time(5000));
        check.yes("one above it", x.time(5001));
        TickKeeper y = clock();
        y.time(5001);
        check.is("the time", timeOf(y), 5001);
    }

    private static void localWithoutAShift() {
        check.of("LOCAL minutes of a ZONE: the minute itself");
        TickKeeper x = new TickKeeper();
        for (int zone = 0; zone < 4; zone++) {
            check.is("the first", x.local(zone, 0), 0);
            check.is("the last", x.local(zone, LAST), LAST);
        }
    }

    private static void localByShifts() {
        check.of("from a SHIFT's minute on .. the minute and its OFFSET, up to the next shift");
        TickKeeper x = new TickKeeper();
        x.shift(2, 500, 60);
        x.shift(2, 900, -60);
        check.is("one before the shift", x.local(2, 499), 499);
        check.is("at the shift", x.local(2, 500), 560);
        check.is("one before the next", x.local(2, 899), 959);
        check.is("at the next, which is not added to the one before", x.local(2, 900), 840);
        check.is("at the end", x.local(2, LAST), LAST - 60);
        check.is("the zone before it", x.local(1, 500), 500);
        check.is("the zone behind it", x.local(3, 500), 500);
    }

    private static void localBelowZero() {
        check.of("The LOCAL minute .. (It may be below 0, too.)");
        TickKeeper x = new TickKeeper();
        x.shift(0, 0, -1);
        x.shift(1, 0, -900);
        x.shift(2, 899, -900);
        check.is("one below 0", x.local(0, 0), -1);
        check.is("0", x.local(0, 1), 0);
        check.is("as far below as can be", x.local(1, 0), -900);
        check.is("0 is there at last", x.local(1, 900), 0);
        check.is("once more below 0", x.local(2, 899), -1);
    }

    private static void localOfNothing() {
        check.of("NONE if there is no such zone or minute");
        TickKeeper x = new TickKeeper();
        int[] zones = {-1, 4, LOW, HIGH};
        int[] minutes = {-1, LAST + 1, LOW, HIGH};
        for (int i = 0; i < 4; i++) {
            check.is("zone " + zones[i], x.local(zones[i], 100), -1);
            check.is("minute " + minutes[i], x.local(0, minutes[i]), -1);
        }
        // Behind a shift, minute - 1 would be local minute 59 and the one beyond the end LAST + 61.
        x.shift(0, 0, 60);
        check.is("one before the first", x.local(0, -1), -1);
        check.is("one beyond the last", x.local(0, LAST + 1), -1);
    }

    private static void zonesOfShifts() {
        check.of("false if there is no such zone");
        TickKeeper x = new TickKeeper();
        int[] wrong = {-1, 4, LOW, HIGH};
        for (int zone : wrong) {
            check.no("zone " + zone, x.shift(zone, 100, 60));
        }
        for (int zone = 0; zone < 4; zone++) {
            check.is("no zone has got it", x.local(zone, 100), 100);
            check.yes("zone " + zone, x.shift(zone, 100, zone + 1));
        }
        for (int zone = 0; zone < 4; zone++) {
            check.is("each has its own", x.local(zone, 100), 101 + zone);
        }
    }

    private static void minutesOfShifts() {
        check.of("false if there is no such .. minute");
        TickKeeper x = new TickKeeper();
        int[] wrong = {-1, LAST + 1, LOW, HIGH};
        for (int minute : wrong) {
            check.no("minute " + minute, x.shift(0, minute, 60));
            check.is("the first, after " + minute, x.local(0, 0), 0);
            check.is("the last, after " + minute, x.local(0, LAST), LAST);
        }
        check.yes("the first minute", x.shift(0, 0, 60));
        check.is("it holds there", x.local(0, 0), 60);
        check.yes("the last minute", x.shift(0, LAST, 30));
        check.is("it holds not before", x.local(0, LAST - 1), LAST + 59);
        check.is("it holds there", x.local(0, LAST), LAST + 30);
    }

    private static void offsets() {
        check.of("its OFFSET (- 900 .. 900)");
        TickKeeper x = new TickKeeper();
        int[] wrong = {-901, 901, LOW, HIGH};
        for (int offset : wrong) {
            check.no("offset " + offset, x.shift(0, 1000, offset));
            check.is("nothing is changed by " + offset, x.local(0, 1000), 1000);
        }
        check.yes("the least", x.shift(0, 1000, -900));
        check.is("the least holds", x.local(0, 1000), 100);
        check.yes("the greatest", x.shift(0, 1001, 900));
        check.is("the greatest holds", x.local(0, 1001), 1901);
        check.yes("none", x.shift(0, 1002, 0));
        check.is("none holds", x.local(0, 1002), 1002);
    }

    private static void eightShifts() {
        check.of("at most 8 shifts: false if .. it has 8");
        TickKeeper x = new TickKeeper();
        for (int i = 1; i <= 8; i++) {
            check.yes("shift " + i, x.shift(1, 100 * i, i));
        }
        check.no("a ninth", x.shift(1, 900, 9));
        check.no("a ninth once more", x.shift(1, 901, 9));
        for (int i = 1; i <= 8; i++) {
            check.is("before shift " + i, x.local(1, 100 * i - 1), 100 * i - 1 + i - 1);
            check.is("at shift " + i, x.local(1, 100 * i), 100 * i + i);
        }
        check.is("the eighth holds to the end", x.local(1, LAST), LAST + 8);
        check.yes("another zone has room", x.shift(0, 100, 5));
    }

    private static void risingMinutes() {
        check.of("false if .. its last one's minute isn't below this");
        TickKeeper x = new TickKeeper();
        x.shift(0, 100, 10);
        check.no("the same minute", x.shift(0, 100, 20));
        check.no("one below", x.shift(0, 99, 20));
        check.is("the first one holds still", x.local(0, 100), 110);
        check.is("and not before", x.local(0, 99), 99);
        check.yes("one above", x.shift(0, 101, 20));
        check.no("between the two", x.shift(0, 100, 30));
        check.no("the second one's minute", x.shift(0, 101, 30));
        check.yes("a third", x.shift(0, 200, 30));
        check.no("between second and third", x.shift(0, 150, 40));
        int[] minutes = {99, 100, 101, 199, 200};
        int[] locals = {99, 110, 121, 219, 230};
        for (int i = 0; i < 5; i++) {
            check.is("local of " + minutes[i], x.local(0, minutes[i]), locals[i]);
        }
        TickKeeper y = new TickKeeper();
        check.yes("a first one at 0", y.shift(0, 0, 10));
        check.no("a second one at 0", y.shift(0, 0, 20));
        check.is("the first one holds", y.local(0, 0), 10);
        check.yes("another zone's may stand there", y.shift(1, 0, 20));
    }

    private static void refusedShiftLeavesNoTrace() {
        check.of("What answers false or NONE changes nothing");
        TickKeeper x = new TickKeeper();
        x.shift(0, 5000, 901);
        x.shift(0, LAST + 1, 60);
        check.yes("an earlier minute than the refused ones'", x.shift(0, 10, 1));
        for (int i = 2; i <= 8; i++) {
            x.shift(0, 10, 1);
            check.yes("the refused ones take no room", x.shift(0, 10 * i, i));
        }
        check.no("only eight do", x.shift(0, 90, 9));
    }

    private static void lengthOfADay() {
        check.of("A LOCAL DAY has 1440 local minutes (day 0 is the first one of 2000, a Saturday");
        TickKeeper x = everyMinute();
        x.mask(0, 4, 0, 1 << 5);
        check.yes("its first minute", x.isDue(0, 0));
        check.yes("its last minute", x.isDue(0, 1439));
        check.no("the next day's first", x.isDue(0, 1440));
        check.no("the last one before the next Saturday", x.isDue(0, 1440 * 7 - 1));
        check.yes("the next Saturday's first", x.isDue(0, 1440 * 7));
    }

    private static void daysBeforeTheFirst() {
        check.of("days before it are counted downwards, by the same calendar");
        // 31 December 1999 was a Friday, the fifth and last one of its month.
        TickKeeper x = everyMinute();
        x.shift(0, 0, -900);
        x.mask(0, 4, 0, 1 << 4);
        isDayBefore("Friday", x);
        x.mask(0, 3, 0, 1 << 12);
        isDayBefore("December", x);
        x.mask(0, 2, 0, (int) (1L << 31));
        isDayBefore("the 31st", x);
        x.mask(0, 2, 0, 1);
        isDayBefore("the last one", x);
        x.nth(0, 4, 5);
        isDayBefore("the fifth Friday", x);
        x.nth(0, 4, 6);
        isDayBefore("the last Friday", x);
        x.set(0, 1, 1);
        isDayBefore("it isn't free", x);
        check.no("there is no day - 1 for a holiday", x.holiday(0, -1));
        isDayBefore("it isn't free still", x);
        x.mask(0, 3, 0, 1 << 1);
        check.no("it is not of January", x.isDue(0, 0));
    }

    /** Local minutes - 900 .. - 1 are due: the minutes 0 .. 899. */
    private static void isDayBefore(String name, TickKeeper x) {
        check.yes(name + ": the first minute", x.isDue(0, 0));
        check.yes(name + ": the last minute of that day", x.isDue(0, 899));
        check.no(name + ": the first one of day 0", x.isDue(0, 900));
    }

    private static void daysBehindTheLast() {
        check.of("local days behind the last one of 2099");
        // 1 January 2100 is a Friday; with this shift it has the last 900 minutes.
        TickKeeper x = everyMinute();
        x.shift(0, 1440 * LAST_DAY, 900);
        x.mask(0, 4, 0, 1 << 4);
        isDayBehind("Friday", x);
        x.mask(0, 3, 0, 1 << 1);
        isDayBehind("January", x);
        x.mask(0, 2, 0, 1 << 1);
        isDayBehind("the first", x);
        x.nth(0, 4, 1);
        isDayBehind("the first Friday", x);
        x.set(0, 1, 1);
        isDayBehind("it isn't free", x);
        check.no("there is no such day for a holiday", x.holiday(0, LAST_DAY + 1));
        isDayBehind("it isn't free still", x);
        x.mask(0, 2, 0, 1);
        check.no("it is not the month's last one", x.isDue(0, LAST));
        x.mask(0, 2, 0, 1 << 1);
        x.mask(0, 3, 0, 1 << 12);
        check.no("it is not of December", x.isDue(0, LAST));
    }

    private static void isDayBehind(String name, TickKeeper x) {
        check.no(name + ": the last minute of 2099", x.isDue(0, LAST - 900));
        check.yes(name + ": the first one behind it", x.isDue(0, LAST - 899));
        check.yes(name + ": the last one", x.isDue(0, LAST));
    }

    private static void weekdays() {
        check.of("WEEKDAYS are 0 Monday .. 6 Sunday");
        TickKeeper x = new TickKeeper();
        int[] firstDays = {2, 3, 4, 5, 6, 0, 1};
        for (int weekday = 0; weekday < 7; weekday++) {
            x.mask(0, 4, 0, 1 << weekday);
            check.is("weekday " + weekday, x.due(0, 0), 1440 * firstDays[weekday]);
        }
        // The last day, 31 December 2099, is a Thursday.
        x.mask(0, 4, 0, 1 << 3);
        check.yes("the last day", x.isDue(0, 1440 * LAST_DAY));
    }

    private static void holidaysAtTheEnds() {
        check.of("false if .. the day isn't 0 .. 36524");
        TickKeeper x = new TickKeeper();
        x.set(0, 1, 1);
        int[] wrong = {-1, LAST_DAY + 1, LOW, HIGH};
        for (int day : wrong) {
            check.no("day " + day, x.holiday(0, day));
        }
        check.yes("the last day isn't free", x.isDue(0, 1440 * LAST_DAY));
        check.yes("the last day", x.holiday(0, LAST_DAY));
        check.no("the last day is free now", x.isDue(0, 1440 * LAST_DAY));
        check.yes("the first day", x.holiday(0, 0));
        check.no("the first day is one now", x.holiday(0, 0));
        for (int i = 0; i < 14; i++) {
            check.yes("the refused ones take no room", x.holiday(0, 100 + i));
        }
    }

    private static void holidayTwice() {
        check.of("false if .. it is one");
        TickKeeper x = new TickKeeper();
        for (int i = 0; i < 15; i++) {
            check.yes("once", x.holiday(0, 20 * i));
            check.no("twice", x.holiday(0, 20 * i));
            check.no("the first one twice", x.holiday(0, 0));
        }
        check.yes("what was refused takes no room", x.holiday(0, 1000));
        check.no("of 16, the last one twice", x.holiday(0, 1000));
    }

    private static void sixteenHolidays() {
        check.of("HOLIDAYS of a zone: at most 16: false if .. it has 16");
        TickKeeper x = new TickKeeper();
        x.set(0, 1, 1);
        // Mondays are 2, 9, 16 ..
        for (int i = 0; i < 16; i++) {
            check.yes("Monday " + i, x.holiday(0, 2 + 7 * i));
        }
        check.no("a seventeenth", x.holiday(0, 2 + 7 * 16));
        for (int i = 0; i < 18; i++) {
            check.is("is Monday " + i + " due", x.isDue(0, 1440 * (2 + 7 * i)) ? 1 : 0, i < 16 ? 0 : 1);
        }
        check.yes("another zone has room", x.holiday(1, 2 + 7 * 16));
    }

    private static void zonesOfHolidays() {
        check.of("false if there is no such zone");
        TickKeeper x = new TickKeeper();
        int[] wrong = {-1, 4, LOW, HIGH};
        for (int zone : wrong) {
            check.no("zone " + zone, x.holiday(zone, 3));
        }
        for (int job = 0; job < 4; job++) {
            x.set(job, 0, job);
            x.set(job, 1, 1);
            check.yes("no zone has got it", x.isDue(job, 1440 * 3));
            check.yes("zone " + job, x.holiday(job, 10 + job));
        }
        for (int job = 0; job < 4; job++) {
            for (int day = 10; day < 14; day++) {
                check.is("zone " + job + ", day " + day, x.isDue(job, 1440 * day) ? 1 : 0, day == 10 + job ? 0 : 1);
            }
        }
    }

    private static void freeDays() {
        check.of("A day is FREE if it is a Saturday, a Sunday or a holiday");
        TickKeeper x = new TickKeeper();
        x.set(0, 1, 1);
        x.holiday(0, 18);
        for (int day = 0; day < 28; day++) {
            boolean free = day % 7 < 2 || day == 18;
            check.is("is day " + day + " due", x.isDue(0, 1440 * day) ? 1 : 0, free ? 0 : 1);
        }
    }
}
