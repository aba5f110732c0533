import java.time.LocalDate;

/** Promises 10 to 12: which minutes are due, and local minutes. */
public final class DueTest {
    private static final int LAST = 52595999;
    private static final int ALL = -1;
    private static final LocalDate FIRST_DAY = LocalDate.of(2000, 1, 1);
    private static final Check check = new Check();

    public static void main(String[] args) {
        wrongInputs();
        everyMinute();
        localMinutes();
        backwardShift();
        forwardShift();
        forwardShiftOverDays();
        backAndForth();
        shiftAtZero();
        daysBeforeTheFirst();
        daysBehindTheLast();
        exceptionAtAShift();
        movedDays();
        movedOverManyDays();
        lastDaysOfFebruary();
        allMonths();
        allDays();
        check.end();
    }

    private static TickKeeper everyMinuteDue() {
        TickKeeper x = new TickKeeper();
        x.mask(0, 0, ALL, ALL);
        x.mask(0, 1, 0, ALL);
        return x;
    }

    private static TickKeeper daily(int hour, int minute) {
        TickKeeper x = new TickKeeper();
        x.mask(0, 0, minute < 30 ? 0 : 1 << minute - 30, minute < 30 ? 1 << minute : 0);
        x.mask(0, 1, 0, 1 << hour);
        return x;
    }

    private static void wrongInputs() {
        TickKeeper x = everyMinuteDue();
        int[] minutes = {-1, LAST + 1, Integer.MIN_VALUE, Integer.MAX_VALUE};
        for (int minute : minutes) {
            check.no("10 isDue at " + minute, x.isDue(0, minute));
            check.is("11 due from " + minute, x.due(0, minute), -1);
            check.is("12 local of " + minute, x.local(0, minute), -1);
        }
        int[] others = {-1, 8, Integer.MIN_VALUE, Integer.MAX_VALUE};
        for (int other : others) {
            check.no("10 isDue of job " + other, x.isDue(other, 0));
            check.is("11 due of job " + other, x.due(other, 0), -1);
            check.is("12 local of zone " + other, x.local(other, 5), -1);
        }
        check.is("12 local of zone 4", x.local(4, 5), -1);
    }

    private static void everyMinute() {
        TickKeeper x = everyMinuteDue();
        int[] minutes = {0, 1, 59, 60, 1439, 1440, 12345678, LAST - 1, LAST};
        for (int minute : minutes) {
            check.yes("10 every minute", x.isDue(0, minute));
            check.is("11 every minute", x.due(0, minute), minute);
            check.is("10 another job", x.isDue(7, minute) ? 1 : 0, minute % 1440 == 0 ? 1 : 0);
        }
        TickKeeper y = daily(23, 59);
        check.yes("10 the very last", y.isDue(0, LAST));
        check.is("11 the very last", y.due(0, LAST - 1438), LAST);
        check.is("11 from the very last", y.due(0, LAST), LAST);
        check.is("11 the one before it", y.due(0, LAST - 1440), LAST - 1440);
    }

    private static void localMinutes() {
        TickKeeper x = new TickKeeper();
        x.shift(2, 100, -900);
        x.shift(2, 200, 900);
        x.shift(2, 300, 0);
        int[] minutes = {0, 99, 100, 199, 200, 299, 300, LAST};
        int[] locals = {0, 99, -800, -701, 1100, 1199, 300, LAST};
        for (int i = 0; i < minutes.length; i++) {
            check.is("12 local of " + minutes[i], x.local(2, minutes[i]), locals[i]);
        }
    }

    /** An hour that comes twice is due the first time only. */
    private static void backwardShift() {
        TickKeeper x = everyMinuteDue();
        x.shift(0, 5000, -60);
        check.yes("10 the last of the first time", x.isDue(0, 4999));
        check.no("10 the first of the second time", x.isDue(0, 5000));
        check.no("10 the last of the second time", x.isDue(0, 5059));
        check.yes("10 behind it", x.isDue(0, 5060));
        check.is("11 over it", x.due(0, 5000), 5060);
        TickKeeper y = daily(3, 30);
        y.shift(0, 1440 * 7 + 240, -60);
        check.yes("10 half past three", y.isDue(0, 1440 * 7 + 210));
        check.no("10 half past three again", y.isDue(0, 1440 * 7 + 270));
        check.is("11 tomorrow's", y.due(0, 1440 * 7 + 211), 1440 * 8 + 270);
    }

    /** A moment that is skipped is due at the shift's minute. */
    private static void forwardShift() {
        TickKeeper x = daily(2, 30);
        x.shift(0, 1440 * 7 + 120, 60);
        check.yes("10 the shift's minute", x.isDue(0, 1440 * 7 + 120));
        check.no("10 behind it", x.isDue(0, 1440 * 7 + 150));
        check.is("11 the shift's minute", x.due(0, 1440 * 6 + 151), 1440 * 7 + 120);
        check.is("11 from the shift's minute", x.due(0, 1440 * 7 + 120), 1440 * 7 + 120);
        check.is("11 the next day's", x.due(0, 1440 * 7 + 121), 1440 * 8 + 90);
        int[] hours = {1, 2, 3};
        int[] minutes = {59, 0, 0};
        int[] dues = {119, 120, 120};
        for (int i = 0; i < 3; i++) {
            TickKeeper y = daily(hours[i], minutes[i]);
            y.shift(0, 1440 * 7 + 120, 60);
            check.is("11 edges of what is skipped", y.due(0, 1440 * 7), 1440 * 7 + dues[i]);
        }
        TickKeeper z = daily(2, 59);
        z.shift(0, 1440 * 7 + 120, 60);
        check.is("11 the last that is skipped", z.due(0, 1440 * 7), 1440 * 7 + 120);
        TickKeeper w = daily(3, 1);
        w.shift(0, 1440 * 7 + 120, 60);
        check.is("11 one behind it", w.due(0, 1440 * 7), 1440 * 7 + 121);
        TickKeeper one = daily(2, 0);
        one.shift(0, 1440 * 7 + 120, 1);
        check.yes("10 one minute is skipped", one.isDue(0, 1440 * 7 + 120));
        TickKeeper same = daily(2, 0);
        same.shift(0, 1440 * 7 + 119, 0);
        check.no("10 a shift by nothing", same.isDue(0, 1440 * 7 + 119));
    }

    /** From - 900 to 900, more than a day is skipped. */
    private static void forwardShiftOverDays() {
        for (int hour = 0; hour < 24; hour++) {
            TickKeeper x = daily(hour, 0);
            x.shift(0, 1440 * 5, -900);
            x.shift(0, 1440 * 10 + 1, 900);
            check.yes("10 each hour is skipped", x.isDue(0, 1440 * 10 + 1));
        }
        TickKeeper y = daily(12, 0);
        y.mask(0, 2, 0, 1 << 11);
        y.shift(0, 1440 * 5, -900);
        // 10 January 23:39 is followed by 12 January 5:40: the whole of the 11th is skipped.
        y.shift(0, 1440 * 10 + 880, 900);
        check.is("11 a whole day is skipped", y.due(0, 0), 1440 * 10 + 880);
        TickKeeper z = daily(12, 0);
        z.mask(0, 2, 0, 1 << 13);
        z.shift(0, 1440 * 5, -900);
        z.shift(0, 1440 * 10 + 880, 900);
        check.is("11 a day behind it isn't", z.due(0, 0), 1440 * 12 + 720 - 900);
    }

    /** What is skipped is due, though it has been there before; what comes later may be too. */
    private static void backAndForth() {
        TickKeeper x = daily(10, 0);
        x.shift(0, 700, -120);
        x.shift(0, 710, 0);
        check.yes("10 as usual", x.isDue(0, 600));
        check.yes("10 skipped, though it was before", x.isDue(0, 710));
        check.is("11 skipped, though it was before", x.due(0, 601), 710);
        TickKeeper y = daily(10, 0);
        y.shift(0, 590, 60);
        y.shift(0, 620, 0);
        check.yes("10 skipped", y.isDue(0, 590));
        check.no("10 never there", y.isDue(0, 600));
        check.is("11 next", y.due(0, 591), 2040);
        TickKeeper z = daily(10, 0);
        z.shift(0, 590, 60);
        z.shift(0, 595, 0);
        check.yes("10 skipped first", z.isDue(0, 590));
        check.yes("10 and then there for the first time", z.isDue(0, 600));
        TickKeeper three = everyMinuteDue();
        three.shift(0, 1000, -100);
        three.shift(0, 1050, -200);
        check.no("10 a third time", three.isDue(0, 1150));
        check.no("10 the last of it", three.isDue(0, 1199));
        check.yes("10 the first new one", three.isDue(0, 1200));
        check.is("11 over both", three.due(0, 1000), 1200);
    }

    private static void shiftAtZero() {
        TickKeeper x = daily(0, 30);
        x.shift(0, 0, 60);
        check.no("10 no minute before the first one", x.isDue(0, 0));
        check.is("11 tomorrow's", x.due(0, 0), 1440 - 30);
        TickKeeper y = everyMinuteDue();
        y.shift(0, 0, -900);
        check.is("11 not there before", y.due(0, 0), 0);
        y.shift(0, 60, 0);
        check.yes("10 all new", y.isDue(0, 60));
    }

    /** 31 December 1999 was a Friday, the fifth and last one of its month. */
    private static void daysBeforeTheFirst() {
        TickKeeper x = daily(9, 0);
        x.shift(0, 0, -900);
        check.is("12 local 31 December 1999, 9:00", x.local(0, 0), -900);
        check.is("11 any day", x.due(0, 0), 0);
        x.mask(0, 2, 0, 1 << 31);
        x.mask(0, 3, 0, 1 << 12);
        check.is("11 the 31st of December", x.due(0, 0), 0);
        x.mask(0, 2, 0, 1);
        check.is("11 the last of December", x.due(0, 0), 0);
        x.mask(0, 4, 0, 1 << 4);
        check.is("11 a Friday", x.due(0, 0), 0);
        x.nth(0, 4, 5);
        check.is("11 the fifth one", x.due(0, 0), 0);
        x.nth(0, 4, 6);
        check.is("11 the last one", x.due(0, 0), 0);
        x.set(0, 1, 1);
        check.is("11 it isn't free", x.due(0, 0), 0);
        x.nth(0, 4, 4);
        check.no("10 not the fourth one", x.isDue(0, 0));
        TickKeeper y = daily(8, 59);
        y.shift(0, 0, -900);
        check.is("11 a minute too early", y.due(0, 0), 1439);
        TickKeeper z = daily(23, 59);
        z.shift(0, 0, -900);
        check.is("11 the last one before 2000", z.due(0, 0), 899);
        TickKeeper skipped = daily(12, 0);
        skipped.mask(0, 3, 0, 1 << 12);
        skipped.shift(0, 0, -900);
        skipped.shift(0, 10, 0);
        check.is("11 skipped before 2000", skipped.due(0, 0), 10);
    }

    /** 1 January 2100 is a Friday. */
    private static void daysBehindTheLast() {
        TickKeeper x = daily(14, 59);
        x.mask(0, 3, 0, 1 << 1);
        x.mask(0, 2, 0, 1 << 1);
        x.shift(0, LAST - 10, 900);
        check.is("12 beyond the end", x.local(0, LAST), LAST + 900);
        check.is("11 1 January 2100, 14:59", x.due(0, LAST - 1439), LAST);
        x.nth(0, 4, 1);
        check.is("11 its first Friday", x.due(0, LAST - 1439), LAST);
        x.set(0, 1, 1);
        check.is("11 it isn't free", x.due(0, LAST - 1439), LAST);
        check.yes("4 the day before is a holiday", x.holiday(0, 36524));
        x.nth(0, 0, 0);
        x.mask(0, 2, 0, 1 << 31);
        x.mask(0, 3, 0, 1 << 12);
        check.is("11 moved into 2100", x.due(0, LAST - 1439), LAST);
        TickKeeper y = daily(15, 0);
        y.shift(0, LAST - 10, 900);
        check.is("11 a minute too late, neither skipped nor reached", y.due(0, LAST - 300), -1);
        TickKeeper z = daily(14, 48);
        z.shift(0, LAST - 10, 900);
        check.is("11 the last one that is skipped", z.due(0, LAST - 300), LAST - 10);
    }

    private static void exceptionAtAShift() {
        TickKeeper x = daily(2, 30);
        x.shift(0, 1440 * 7 + 120, 60);
        x.except(0, 1440 * 7 + 120);
        check.no("10 it is an exception", x.isDue(0, 1440 * 7 + 120));
        check.is("11 over it", x.due(0, 1440 * 7), 1440 * 8 + 90);
        TickKeeper y = everyMinuteDue();
        y.shift(0, 5000, 60);
        for (int i = 0; i < 8; i++) {
            y.except(0, 5000 + i);
        }
        check.is("11 over eight", y.due(0, 5000), 5008);
        check.is("11 before them", y.due(0, 4999), 4999);
    }

    private static void movedDays() {
        TickKeeper x = new TickKeeper();
        x.set(0, 1, 1);
        x.mask(0, 2, 0, 1 << 1);
        // 1 January 2000 is a Saturday, 1 February a Tuesday, 1 April a Saturday.
        check.is("11 moved to Monday", x.due(0, 0), 2 * 1440);
        check.no("10 not on the free day", x.isDue(0, 0));
        check.no("10 not on the free day behind it", x.isDue(0, 1440));
        check.no("10 once only", x.isDue(0, 3 * 1440));
        check.is("11 not moved", x.due(0, 3 * 1440), 31 * 1440);
        check.is("11 moved again", x.due(0, 61 * 1440), (91 + 2) * 1440);
        x.holiday(0, 31);
        check.is("11 a holiday, too", x.due(0, 3 * 1440), 32 * 1440);
        x.holiday(1, 32);
        check.is("11 not another zone's", x.due(0, 3 * 1440), 32 * 1440);
        TickKeeper y = new TickKeeper();
        y.set(0, 1, 1);
        y.mask(0, 4, 0, 1 << 4 | 1 << 5);
        check.is("11 Monday for Saturday", y.due(0, 0), 2 * 1440);
        check.is("11 Friday is no free day", y.due(0, 3 * 1440), 6 * 1440);
        y.holiday(0, 6);
        check.is("11 Friday and Saturday on one Monday", y.due(0, 3 * 1440), 9 * 1440);
        TickKeeper z = daily(8, 0);
        z.set(0, 1, 1);
        z.mask(0, 2, 0, 1);
        z.mask(0, 3, 0, 1 << 4);
        check.is("11 the last day of April moved into May", z.due(0, 0), (91 + 30) * 1440 + 480);
    }

    /** 16 holidays and the Saturdays and Sundays among them make 24 free days: only 20 count. */
    private static void movedOverManyDays() {
        TickKeeper x = new TickKeeper();
        int holidays = 0;
        for (int day = 7; holidays < 16; day++) {
            if (day % 7 > 1) {
                check.yes("4 holiday", x.holiday(0, day));
                holidays++;
            }
        }
        x.set(0, 1, 1);
        // Free are the days 7 .. 30, 31 is a Tuesday.
        for (int day = 7; day <= 30; day++) {
            x.mask(0, 3, 0, 1 << 1);
            x.mask(0, 2, 0, 1 << day + 1);
            check.is("11 " + (31 - day) + " free days", x.due(0, 0), day >= 11 ? 31 * 1440 : 1440 * 366 + 1440 * movedIn2001(day));
        }
    }

    /** The day of January 2001 (from 0), moved from a Saturday or Sunday; day 366 is a Monday. */
    private static int movedIn2001(int day) {
        int weekday = day % 7;
        return weekday == 5 ? day + 2 : weekday == 6 ? day + 1 : day;
    }

    private static void lastDaysOfFebruary() {
        TickKeeper x = new TickKeeper();
        x.mask(0, 2, 0, 1);
        x.mask(0, 3, 0, 1 << 2);
        int day = 0;
        for (int year = 2000; year < 2100; year++) {
            boolean leap = year % 4 == 0;
            int want = day + 31 + (leap ? 28 : 27);
            check.is("11 the last day of February " + year, x.due(0, day * 1440), want * 1440);
            day += leap ? 366 : 365;
        }
        check.is("11 none behind 2099", x.due(0, (day - 300) * 1440), -1);
    }

    /** The first and the last day of each month, by the Java library's calendar. */
    private static void allMonths() {
        for (int year = 2000; year < 2100; year++) {
            TickKeeper x = new TickKeeper();
            x.mask(0, 2, 0, 1);
            x.mask(1, 2, 0, 1 << 1);
            for (int month = 1; month <= 12; month++) {
                LocalDate first = LocalDate.of(year, month, 1);
                LocalDate last = first.plusMonths(1).minusDays(1);
                check.is("11 first of " + first, x.due(1, minuteOf(first)), minuteOf(first));
                check.is("11 last from " + first, x.due(0, minuteOf(first)), minuteOf(last));
                check.is("11 last from " + last, x.due(0, minuteOf(last)), minuteOf(last));
                if (month > 1) {
                    check.is("11 first from the second before " + first,
                        x.due(1, minuteOf(first.minusMonths(1)) + 1), minuteOf(first));
                }
            }
        }
    }

    /** Each day is due by its own month, day and weekday, and by its place in the month. */
    private static void allDays() {
        LocalDate date = FIRST_DAY;
        for (int run = 0; run <= 500; run++) {
            TickKeeper x = new TickKeeper();
            for (int i = 0; i < 73 && date.getYear() < 2100; i++) {
                int weekday = date.getDayOfWeek().getValue() - 1;
                x.mask(0, 2, 0, 1 << date.getDayOfMonth());
                x.mask(0, 3, 0, 1 << date.getMonthValue());
                x.mask(0, 4, 0, 1 << weekday);
                x.nth(0, weekday, (date.getDayOfMonth() + 6) / 7);
                check.yes("10 due on " + date, x.isDue(0, minuteOf(date)));
                x.nth(0, weekday, 6);
                check.is("10 the last one of its month " + date, x.isDue(0, minuteOf(date)) ? 1 : 0,
                    date.plusDays(7).getMonthValue() != date.getMonthValue() ? 1 : 0);
                date = date.plusDays(1);
            }
        }
        check.is("10 all days were asked for", date.getYear(), 2100);
    }

    private static int minuteOf(LocalDate date) {
        return (int) (date.toEpochDay() - FIRST_DAY.toEpochDay()) * 1440;
    }
}
