/** Promises 1 to 9: a new object, and what is set of time, zones and jobs. */
public final class SettingsTest {
    private static final int LAST = 52595999;
    private static final int LOW = Integer.MIN_VALUE;
    private static final int HIGH = Integer.MAX_VALUE;
    private static final int ALL = -1;
    private static final Check check = new Check();

    public static void main(String[] args) {
        newObject();
        time();
        shift();
        holiday();
        maskOfMinutes();
        maskOfHours();
        maskOfDays();
        maskOfMonths();
        maskOfWeekdays();
        wrongMasks();
        nth();
        setZone();
        setMoved();
        setMode();
        setLateness();
        setPaused();
        except();
        after();
        check.end();
    }

    private static void newObject() {
        TickKeeper x = new TickKeeper();
        check.is("1 letters", x.letters(), 0);
        for (int job = 0; job < 8; job++) {
            check.is("1 due at midnight", x.due(job, 0), 0);
            check.is("1 due each day", x.due(job, 1), 1440);
            check.is("1 due on the last day", x.due(job, LAST - 1439), LAST - 1439);
            check.is("1 nothing behind it", x.due(job, LAST - 1438), -1);
            check.is("1 effects", x.effects(job), 0);
            for (int s = 0; s < 3; s++) {
                int[] first = {0, 0, -1, 0, -1, 0, 0, -1};
                for (int what = 0; what < 8; what++) {
                    check.is("1 register " + what, x.register(s, job, what), first[what]);
                }
            }
        }
        for (int zone = 0; zone < 4; zone++) {
            check.is("1 local", x.local(zone, 77), 77);
        }
        for (int s = 0; s < 3; s++) {
            check.no("1 scheduler is up", x.up(s, true));
        }
        for (int d = 0; d < 2; d++) {
            check.no("1 desk is on", x.desk(d, true));
        }
        check.yes("1 time 0", x.time(0));
        check.is("1 all jobs are due", x.wake(0), 8);
    }

    private static void time() {
        TickKeeper x = new TickKeeper();
        check.no("2 below 0", x.time(-1));
        check.no("2 far below 0", x.time(LOW));
        check.yes("2 the same", x.time(0));
        check.yes("2 later", x.time(2000));
        check.no("2 back", x.time(1999));
        check.yes("2 the same again", x.time(2000));
        check.no("2 beyond the last", x.time(LAST + 1));
        check.no("2 far beyond", x.time(HIGH));
        // Were the time 0 or the last minute now, not one job or other ones would be due.
        check.is("2 false changes nothing", x.wake(0), 8);
        check.yes("2 the last", x.time(LAST));
        check.yes("2 the last again", x.time(LAST));
        check.no("2 before the last", x.time(LAST - 1));
        check.is("2 by lateness, the last day's", x.wake(1), 8);
    }

    private static void shift() {
        TickKeeper x = new TickKeeper();
        check.no("3 zone -1", x.shift(-1, 10, 60));
        check.no("3 zone 4", x.shift(4, 10, 60));
        check.no("3 minute -1", x.shift(0, -1, 60));
        check.no("3 minute beyond", x.shift(0, LAST + 1, 60));
        check.no("3 offset below", x.shift(0, 10, -901));
        check.no("3 offset above", x.shift(0, 10, 901));
        check.no("3 offset far below", x.shift(0, 10, LOW));
        check.is("3 false changes nothing", x.local(0, 10), 10);
        check.yes("3 at 0", x.shift(0, 0, -900));
        check.no("3 at the same minute", x.shift(0, 0, 60));
        check.yes("3 one later", x.shift(0, 1, 900));
        check.no("3 before the last one", x.shift(0, 0, 60));
        for (int i = 3; i <= 8; i++) {
            check.yes("3 shift " + i, x.shift(0, 100 * i, i));
        }
        check.no("3 a ninth", x.shift(0, 5000, 9));
        int[] minutes = {0, 1, 299, 300, 399, 400, 799, 800, 5000};
        int[] locals = {-900, 901, 1199, 303, 402, 404, 806, 808, 5008};
        for (int i = 0; i < minutes.length; i++) {
            check.is("3 local of " + minutes[i], x.local(0, minutes[i]), locals[i]);
        }
        check.is("3 another zone", x.local(1, 300), 300);
        check.yes("3 the last minute", x.shift(3, LAST, 900));
        check.is("3 before it", x.local(3, LAST - 1), LAST - 1);
        check.is("3 at it", x.local(3, LAST), LAST + 900);
        check.yes("3 time does not matter", x.time(1000) && x.shift(2, 5, 5));
    }

    private static void holiday() {
        TickKeeper x = new TickKeeper();
        check.no("4 zone -1", x.holiday(-1, 5));
        check.no("4 zone 4", x.holiday(4, 5));
        check.no("4 day -1", x.holiday(0, -1));
        check.no("4 day beyond", x.holiday(0, 36525));
        check.no("4 day far below", x.holiday(0, LOW));
        check.no("4 day far beyond", x.holiday(0, HIGH));
        x.set(0, 1, 1);
        check.is("4 Monday, the first day that isn't free", x.due(0, 0), 2 * 1440);
        check.yes("4 Monday", x.holiday(0, 2));
        check.no("4 it is one", x.holiday(0, 2));
        check.yes("4 in another zone", x.holiday(1, 2));
        check.is("4 Tuesday now", x.due(0, 0), 3 * 1440);
        check.yes("4 a Saturday, free anyway", x.holiday(0, 0));
        check.yes("4 the last day", x.holiday(0, 36524));
        for (int i = 0; i < 13; i++) {
            check.yes("4 more", x.holiday(0, 1000 + i));
        }
        check.no("4 a seventeenth", x.holiday(0, 2000));
        check.is("4 false changes nothing", x.isDue(0, 2000 * 1440) ? 1 : 0, 1);
        check.yes("4 another zone has room", x.holiday(1, 2000));
    }

    private static void maskOfMinutes() {
        TickKeeper x = new TickKeeper();
        for (int bit = 0; bit < 60; bit++) {
            int high = bit < 30 ? 0 : 1 << bit - 30;
            int low = bit < 30 ? 1 << bit : 0;
            check.yes("5 minute " + bit, x.mask(0, 0, high, low));
            check.is("5 due at minute " + bit, x.due(0, 0), bit);
            check.is("5 and no sooner than tomorrow", x.due(0, bit + 1), 1440 + bit);
        }
        x.mask(0, 0, 3 << 30, 3 << 30);
        check.is("5 the highest two bits mean nothing", x.due(0, 0), -1);
        x.mask(0, 0, ALL, 0);
        check.is("5 all of high", x.due(0, 0), 30);
        x.mask(0, 0, 0, ALL);
        check.is("5 all of low", x.due(0, 29), 29);
        check.is("5 none of high", x.due(0, 30), 1440);
        check.is("5 another job", x.due(1, 1), 1440);
    }

    private static void maskOfHours() {
        TickKeeper x = new TickKeeper();
        for (int bit = 0; bit < 32; bit++) {
            check.yes("5 hour " + bit, x.mask(7, 1, ALL, 1 << bit));
            check.is("5 due in hour " + bit, x.due(7, 0), bit < 24 ? 60 * bit : -1);
        }
        x.mask(7, 1, 0, 1 << 23 | 1 << 5);
        check.is("5 the first of two hours", x.due(7, 0), 300);
        check.is("5 the second one", x.due(7, 301), 1380);
        check.is("5 the next day's", x.due(7, 1381), 1740);
    }

    private static void maskOfDays() {
        TickKeeper x = new TickKeeper();
        for (int bit = 1; bit <= 31; bit++) {
            check.yes("5 day " + bit, x.mask(0, 2, 0, 1 << bit));
            check.is("5 due on day " + bit, x.due(0, 0), 1440 * (bit - 1));
        }
        check.is("5 no 31st in February", x.due(0, 1440 * 31), 1440 * (31 + 29 + 30));
        check.yes("5 the last day", x.mask(0, 2, 0, 1));
        check.is("5 31 January", x.due(0, 0), 1440 * 30);
        check.is("5 29 February 2000", x.due(0, 1440 * 31), 1440 * 59);
        check.is("5 28 February 2001", x.due(0, 1440 * 397), 1440 * 424);
        check.is("5 the very last day", x.due(0, 1440 * 36500), 1440 * 36524);
        check.yes("5 no day", x.mask(0, 2, ALL, 0));
        check.is("5 never due", x.due(0, 0), -1);
        x.mask(0, 2, 0, 1 << 29);
        x.mask(0, 3, 0, 1 << 2);
        check.is("5 29 February", x.due(0, 0), 1440 * 59);
        check.is("5 and four years later", x.due(0, 1440 * 60), 1440 * (59 + 1461));
        x.mask(0, 2, 0, 1 << 30);
        check.is("5 30 February", x.due(0, 0), -1);
    }

    private static void maskOfMonths() {
        TickKeeper x = new TickKeeper();
        int[] lengths = {31, 29, 31, 30, 31, 30, 31, 31, 30, 31, 30, 31};
        int day = 0;
        for (int bit = 1; bit <= 12; bit++) {
            check.yes("5 month " + bit, x.mask(0, 3, 0, 1 << bit));
            check.is("5 due in month " + bit, x.due(0, 0), 1440 * day);
            day += lengths[bit - 1];
        }
        check.yes("5 bits that mean nothing", x.mask(0, 3, ALL, ~0x1FFE));
        check.is("5 no month", x.due(0, 0), -1);
    }

    private static void maskOfWeekdays() {
        TickKeeper x = new TickKeeper();
        for (int bit = 0; bit < 7; bit++) {
            check.yes("5 weekday " + bit, x.mask(0, 4, 0, 1 << bit));
            check.is("5 due on weekday " + bit, x.due(0, 0), 1440 * ((bit + 2) % 7));
            check.is("5 and a week later", x.due(0, 1440 * ((bit + 2) % 7) + 1), 1440 * ((bit + 2) % 7 + 7));
        }
        check.yes("5 bits that mean nothing", x.mask(0, 4, ALL, ~127));
        check.is("5 no weekday", x.due(0, 0), -1);
    }

    private static void wrongMasks() {
        TickKeeper x = new TickKeeper();
        check.no("5 job -1", x.mask(-1, 0, 0, 2));
        check.no("5 job 8", x.mask(8, 0, 0, 2));
        check.no("5 mask -1", x.mask(0, -1, 0, 2));
        check.no("5 mask 5", x.mask(0, 5, 0, 2));
        check.no("5 mask far beyond", x.mask(0, HIGH, 0, 2));
        for (int job = 0; job < 8; job++) {
            check.is("5 false changes nothing", x.due(job, 0), 0);
        }
    }

    private static void nth() {
        TickKeeper x = new TickKeeper();
        check.no("6 job -1", x.nth(-1, 0, 1));
        check.no("6 job 8", x.nth(8, 0, 1));
        check.no("6 weekday -1", x.nth(0, -1, 1));
        check.no("6 weekday 7", x.nth(0, 7, 1));
        check.no("6 n -1", x.nth(0, 0, -1));
        check.no("6 n 7", x.nth(0, 0, 7));
        check.no("6 n 0 with no such weekday", x.nth(0, 7, 0));
        check.is("6 false changes nothing", x.due(0, 1), 1440);
        // January 2000 began with a Saturday and had five of them; Mondays were 3, 10, 17, 24, 31.
        int[] mondays = {2, 9, 16, 23, 30};
        for (int n = 1; n <= 5; n++) {
            check.yes("6 n " + n, x.nth(0, 0, n));
            check.is("6 Monday " + n, x.due(0, 0), 1440 * mondays[n - 1]);
        }
        check.is("6 the next fifth Monday is of May", x.due(0, 1440 * 31), 1440 * (31 + 29 + 31 + 30 + 28));
        check.yes("6 the last", x.nth(0, 0, 6));
        check.is("6 last Monday, a fifth one", x.due(0, 0), 1440 * 30);
        check.is("6 last Monday of February, a fourth one", x.due(0, 1440 * 31), 1440 * (31 + 27));
        check.yes("6 first Saturday", x.nth(0, 5, 1));
        check.is("6 the first day of all", x.due(0, 0), 0);
        check.is("6 February's first Saturday", x.due(0, 1), 1440 * (31 + 4));
        check.yes("6 seventh day of the month: first Friday", x.nth(0, 4, 1));
        check.is("6 7 January", x.due(0, 0), 1440 * 6);
        check.yes("6 eighth day: second Saturday", x.nth(0, 5, 2));
        check.is("6 8 January", x.due(0, 0), 1440 * 7);
        x.mask(0, 4, 0, 1);
        check.is("6 the weekday's bit is not set", x.due(0, 0), -1);
        check.yes("6 none", x.nth(0, 3, 0));
        check.is("6 every Monday again", x.due(0, 0), 1440 * 2);
        check.is("6 every Monday again, the second", x.due(0, 1440 * 3), 1440 * 9);
    }

    private static void setZone() {
        TickKeeper x = new TickKeeper();
        x.shift(3, 0, 60);
        check.no("7 zone -1", x.set(0, 0, -1));
        check.no("7 zone 4", x.set(0, 0, 4));
        check.no("7 job -1", x.set(-1, 0, 0));
        check.no("7 job 8", x.set(8, 0, 0));
        check.no("7 what -1", x.set(0, -1, 0));
        check.no("7 what 5", x.set(0, 5, 0));
        check.is("7 zone 0 at first", x.due(0, 1), 1440);
        check.yes("7 zone 3", x.set(0, 0, 3));
        check.is("7 midnight of zone 3", x.due(0, 0), 1380);
        check.is("7 another job", x.due(1, 1), 1440);
        check.yes("7 zone 0", x.set(0, 0, 0));
        check.is("7 midnight of zone 0", x.due(0, 1), 1440);
    }

    private static void setMoved() {
        TickKeeper x = new TickKeeper();
        check.is("7 not moved at first", x.due(0, 0), 0);
        check.yes("7 moved, by any number", x.set(0, 1, LOW));
        check.is("7 moved", x.due(0, 0), 2880);
        check.yes("7 not moved", x.set(0, 1, 0));
        check.is("7 not moved again", x.due(0, 0), 0);
    }

    /** Of one job, all others being paused, the moment that scheduler 0 claims; -1 if none. */
    private static int claimed(TickKeeper x, int job) {
        for (int other = 0; other < 8; other++) {
            x.set(other, 4, other == job ? 0 : 1);
        }
        for (int waiting = x.letters(); waiting > 0; waiting--) {
            x.lose(0);
        }
        x.wake(0);
        // PREPARE twice and PROMISED twice, but no ACCEPT.
        for (int i = 0; i < 4 && x.letters() > 0 && x.letter(0, 0) < 2; i++) {
            x.deliver(0);
        }
        return x.register(0, job, 7);
    }

    private static TickKeeper daily(int time, int mode, int lateness) {
        TickKeeper x = new TickKeeper();
        x.time(time);
        check.yes("7 mode", x.set(4, 2, mode));
        check.yes("7 lateness", x.set(4, 3, lateness));
        return x;
    }

    private static void setMode() {
        check.is("7 ALL: the first", claimed(daily(5000, 0, 100000), 4), 0);
        check.is("7 ALL: the first that isn't too late", claimed(daily(5000, 0, 3560), 4), 1440);
        check.is("7 ALL: a minute less", claimed(daily(5000, 0, 3559), 4), 2880);
        check.is("7 NEWEST: the last", claimed(daily(5000, 1, 100000), 4), 4320);
        check.is("7 NEWEST: just in time", claimed(daily(5000, 1, 680), 4), 4320);
        check.is("7 NEWEST: too late", claimed(daily(5000, 1, 679), 4), -1);
        check.is("7 NEWEST: now", claimed(daily(4320, 1, 0), 4), 4320);
        check.is("7 NONE: not due now", claimed(daily(5000, 2, 100000), 4), -1);
        check.is("7 NONE: due now", claimed(daily(4320, 2, 0), 4), 4320);
        TickKeeper x = daily(5000, 1, 100000);
        check.no("7 mode -1", x.set(4, 2, -1));
        check.no("7 mode 3", x.set(4, 2, 3));
        check.is("7 false changes nothing", claimed(x, 4), 4320);
        TickKeeper dense = daily(3000, 1, 100000);
        dense.mask(4, 0, ALL, ALL);
        dense.mask(4, 1, 0, ALL);
        check.is("7 NEWEST of many", claimed(dense, 4), 3000);
    }

    private static void setLateness() {
        TickKeeper x = new TickKeeper();
        check.no("7 lateness -1", x.set(0, 3, -1));
        check.no("7 lateness 100001", x.set(0, 3, 100001));
        x.time(1440 * 100 + 1439);
        check.is("7 a day at first", claimed(x, 0), 1440 * 100);
        TickKeeper y = daily(1440 * 100, 0, 100000);
        check.is("7 the greatest lateness", claimed(y, 4), 1440 * 31);
        TickKeeper z = daily(1440 * 100, 0, 0);
        check.is("7 the least lateness", claimed(z, 4), 1440 * 100);
        TickKeeper w = daily(1440 * 100 + 1, 0, 0);
        check.is("7 a minute too late", claimed(w, 4), -1);
    }

    private static void setPaused() {
        TickKeeper x = new TickKeeper();
        check.yes("7 paused, by any number", x.set(2, 4, -5));
        check.is("7 one is paused", x.wake(0), 7);
        check.is("7 it has no round", x.register(0, 2, 5), 0);
        check.is("7 it is due still", x.due(2, 0), 0);
        check.yes("7 not paused", x.set(2, 4, 0));
        check.is("7 none is paused", x.wake(0), 8);
    }

    private static void except() {
        TickKeeper x = new TickKeeper();
        check.no("8 job -1", x.except(-1, 0));
        check.no("8 job 8", x.except(8, 0));
        check.no("8 minute -1", x.except(0, -1));
        check.no("8 minute beyond", x.except(0, LAST + 1));
        check.is("8 false changes nothing", x.due(0, 0), 0);
        for (int i = 0; i < 7; i++) {
            check.yes("8 exception " + i, x.except(0, 1440 * i));
            check.no("8 it is one", x.except(0, 1440 * i));
            check.no("8 it is not due", x.isDue(0, 1440 * i));
            check.is("8 the next one is", x.due(0, 0), 1440 * (i + 1));
        }
        check.yes("8 the last minute", x.except(0, LAST));
        check.no("8 a ninth", x.except(0, 1440 * 7));
        check.is("8 a ninth changes nothing", x.due(0, 0), 1440 * 7);
        check.yes("8 another job", x.except(1, 0));
        check.is("8 of a third one nothing is changed", x.due(2, 0), 0);
    }

    private static void after() {
        TickKeeper x = new TickKeeper();
        check.no("9 job -1", x.after(-1, 0, true));
        check.no("9 job 8", x.after(8, 0, true));
        check.no("9 other -1", x.after(0, -1, true));
        check.no("9 other 8", x.after(0, 8, true));
        check.no("9 both are one", x.after(3, 3, true));
        check.no("9 both are one, off", x.after(3, 3, false));
        check.is("9 false changes nothing", claimed(x, 3), 0);
        check.yes("9 on", x.after(3, 4, true));
        check.yes("9 on again", x.after(3, 4, true));
        check.is("9 it waits", claimed(x, 3), -1);
        check.yes("9 off", x.after(3, 4, false));
        check.yes("9 off again", x.after(3, 4, false));
        check.is("9 it waits no more", claimed(x, 3), 0);
        x.after(4, 3, true);
        check.is("9 not the other way round", claimed(x, 3), 0);
    }
}
