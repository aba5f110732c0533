/**
 * Jobs by a calendar that are done once for each due moment, though the schedulers that claim them
 * crash and compete, and their letters are lost, late or doubled.
 *
 * <p>All objects are made by the constructor and used again, so that no later call makes one.
 */
public final class TickKeeper {
    public static final int NONE = -1;

    private static final int LAST_MINUTE = 52595999;
    private static final int LAST_DAY = 36524;
    private static final int DAY_MINUTES = 1440;

    private static final int ZONES = 4;
    private static final int JOBS = 8;
    private static final int SCHEDULERS = 3;
    private static final int DESKS = 2;

    private static final int MOST_SHIFTS = 8;
    private static final int MOST_OFFSET = 900;
    private static final int MOST_HOLIDAYS = 16;
    private static final int MOST_EXCEPTIONS = 8;
    private static final int MOST_MOVED = 20;
    private static final int MOST_LATENESS = 100000;
    private static final int MOST_LETTERS = 60;
    private static final int MOST_EFFECTS = 40;

    private static final int WEEKDAYS = 7;
    private static final int SATURDAY = 5;
    private static final int NTH_LAST = 6;

    private static final int MODE_NEWEST = 1;
    private static final int MODE_NONE = 2;

    private static final int PREPARE = 0;
    private static final int PROMISED = 1;
    private static final int ACCEPT = 2;
    private static final int ACCEPTED = 3;
    private static final int EFFECT = 4;
    private static final int DONE = 5;

    private static final int NO_ROUND = 0;
    private static final int PREPARING = 1;
    private static final int ACCEPTING = 2;
    private static final int AT_DESK = 3;

    private final Zone[] zones = new Zone[ZONES];
    private final Job[] jobs = new Job[JOBS];
    private final Scheduler[] schedulers = new Scheduler[SCHEDULERS];
    private final boolean[] deskOn = new boolean[DESKS];
    private final Journal[] journals = new Journal[JOBS];
    private final Post post = new Post();
    private int now = 0;

    public TickKeeper() {
        for (int i = 0; i < ZONES; i++) {
            zones[i] = new Zone();
        }
        for (int i = 0; i < JOBS; i++) {
            jobs[i] = new Job(zones[0]);
            journals[i] = new Journal();
        }
        for (int i = 0; i < SCHEDULERS; i++) {
            schedulers[i] = new Scheduler();
        }
        for (int i = 0; i < DESKS; i++) {
            deskOn[i] = true;
        }
    }

    // ---- time and zones

    public boolean time(int minute) {
        if (minute < now || minute > LAST_MINUTE) {
            return false;
        }
        now = minute;
        return true;
    }

    public boolean shift(int zone, int minute, int offset) {
        if (!isZone(zone) || !isMinute(minute) || offset < -MOST_OFFSET || offset > MOST_OFFSET) {
            return false;
        }
        return zones[zone].addShift(minute, offset);
    }

    public boolean holiday(int zone, int day) {
        if (!isZone(zone) || day < 0 || day > LAST_DAY) {
            return false;
        }
        return zones[zone].addHoliday(day);
    }

    public int local(int zone, int minute) {
        return isZone(zone) && isMinute(minute) ? zones[zone].localMinute(minute) : NONE;
    }

    // ---- jobs and their rules

    public boolean mask(int job, int mask, int high, int low) {
        return isJob(job) && jobs[job].rule.changeMask(mask, high, low);
    }

    public boolean nth(int job, int weekday, int n) {
        if (!isJob(job) || weekday < 0 || weekday >= WEEKDAYS || n < 0 || n > NTH_LAST) {
            return false;
        }
        jobs[job].rule.nthWeekday = weekday;
        jobs[job].rule.nthPlace = n;
        return true;
    }

    public boolean set(int job, int what, int value) {
        if (!isJob(job)) {
            return false;
        }
        switch (what) {
            case 0:
                if (!isZone(value)) {
                    return false;
                }
                jobs[job].zone = zones[value];
                return true;
            case 1:
                jobs[job].moved = value != 0;
                return true;
            case 2:
                return jobs[job].changeMode(value);
            case 3:
                return jobs[job].changeLateness(value);
            case 4:
                jobs[job].paused = value != 0;
                return true;
            default:
                return false;
        }
    }

    public boolean except(int job, int minute) {
        return isJob(job) && isMinute(minute) && jobs[job].addException(minute);
    }

    public boolean after(int job, int other, boolean on) {
        if (!isJob(job) || !isJob(other) || job == other) {
            return false;
        }
        jobs[job].waitsFor[other] = on;
        return true;
    }

    public boolean isDue(int job, int minute) {
        return isJob(job) && isMinute(minute) && jobs[job].firstDue(minute, minute) == minute;
    }

    public int due(int job, int from) {
        return isJob(job) && isMinute(from) ? jobs[job].firstDue(from, LAST_MINUTE) : NONE;
    }

    // ---- schedulers and desks

    public int wake(int s) {
        if (!isScheduler(s) || !schedulers[s].running) {
            return NONE;
        }
        int begun = 0;
        for (int job = 0; job < JOBS; job++) {
            Seat seat = schedulers[s].seats[job];
            if (hasWork(seat, jobs[job])) {
                seat.beginRound(s);
                sendToOthers(PREPARE, s, job);
                begun++;
            }
        }
        return begun;
    }

    public boolean up(int s, boolean on) {
        if (!isScheduler(s) || schedulers[s].running == on) {
            return false;
        }
        schedulers[s].running = on;
        if (!on) {
            schedulers[s].forget();
        }
        return true;
    }

    public boolean desk(int d, boolean on) {
        if (d < 0 || d >= DESKS || deskOn[d] == on) {
            return false;
        }
        deskOn[d] = on;
        return true;
    }

    public int register(int s, int job, int what) {
        return isScheduler(s) && isJob(job) ? schedulers[s].seats[job].tell(what) : NONE;
    }

    public int effects(int job) {
        return isJob(job) ? journals[job].count : NONE;
    }

    public int effect(int job, int i, int what) {
        if (!isJob(job) || i < 0 || i >= journals[job].count) {
            return NONE;
        }
        switch (what) {
            case 0:
                return journals[job].moments[i];
            case 1:
                return journals[job].guards[i];
            default:
                return NONE;
        }
    }

    // ---- letters

    public int letters() {
        return post.count;
    }

    public int deliver(int i) {
        if (!post.holds(i)) {
            return NONE;
        }
        Letter came = post.take(i);
        if (!isHeard(came)) {
            return came.kind;
        }
        switch (came.kind) {
            case PREPARE:
                hearPrepare(came);
                break;
            case PROMISED:
                hearPromised(came);
                break;
            case ACCEPT:
                hearAccept(came);
                break;
            case ACCEPTED:
                hearAccepted(came);
                break;
            case EFFECT:
                hearEffect(came);
                break;
            default:
                seatOf(came).learn(came.moment);
                break;
        }
        return came.kind;
    }

    public boolean lose(int i) {
        if (!post.holds(i)) {
            return false;
        }
        post.take(i);
        return true;
    }

    public boolean twin(int i) {
        if (!post.holds(i) || post.count >= MOST_LETTERS) {
            return false;
        }
        post.copyToEnd(i);
        return true;
    }

    public int letter(int i, int what) {
        return post.holds(i) ? post.row[i].tell(what) : NONE;
    }

    // ---- what there is

    private static boolean isMinute(int minute) {
        return minute >= 0 && minute <= LAST_MINUTE;
    }

    private static boolean isZone(int zone) {
        return zone >= 0 && zone < ZONES;
    }

    private static boolean isJob(int job) {
        return job >= 0 && job < JOBS;
    }

    private static boolean isScheduler(int s) {
        return s >= 0 && s < SCHEDULERS;
    }

    // ---- how schedulers and desks answer letters

    private boolean isHeard(Letter came) {
        return came.kind == EFFECT ? deskOn[came.to] : schedulers[came.to].running;
    }

    private Seat seatOf(Letter came) {
        return schedulers[came.to].seats[came.job];
    }

    private Letter answer(Letter came, int kind) {
        return post.open(kind, came.to, came.from, came.job);
    }

    private boolean hasWork(Seat seat, Job job) {
        return !job.paused
            && (seat.acceptedMoment > seat.known || job.hasNext(seat.acceptedMoment, now));
    }

    /** A round tells no moment and no guard before it claims one, so PREPARE needs no other words. */
    private void sendToOthers(int kind, int from, int job) {
        Seat seat = schedulers[from].seats[job];
        for (int to = 0; to < SCHEDULERS; to++) {
            if (to != from) {
                Letter sent = post.open(kind, from, to, job);
                sent.ballot = seat.ballot;
                sent.moment = seat.claimed;
                sent.guard = seat.guard;
            }
        }
    }

    private void hearPrepare(Letter came) {
        Seat seat = seatOf(came);
        if (seat.promise > came.ballot) {
            return;
        }
        seat.promise = came.ballot;
        Letter sent = answer(came, PROMISED);
        sent.ballot = came.ballot;
        sent.moment = seat.acceptedMoment;
        sent.guard = seat.acceptedGuard;
        sent.acceptedBallot = seat.acceptedBallot;
    }

    private void hearPromised(Letter came) {
        Seat seat = seatOf(came);
        if (!seat.isAt(PREPARING, came.ballot) || seat.promise != came.ballot) {
            return;
        }
        boolean own = seat.acceptedBallot >= came.acceptedBallot;
        int lastMoment = own ? seat.acceptedMoment : came.moment;
        int lastGuard = own ? seat.acceptedGuard : came.guard;
        Job job = jobs[came.job];
        int moment = lastMoment > seat.known ? lastMoment : job.nextMoment(lastMoment, now);
        if (moment == NONE || job.paused || hasToWait(schedulers[came.to], job, moment)) {
            seat.endRound();
            return;
        }
        seat.claim(moment, lastGuard + 1);
        sendToOthers(ACCEPT, came.to, came.job);
    }

    private boolean hasToWait(Scheduler scheduler, Job job, int moment) {
        int day = job.zone.localDay(moment);
        for (int other = 0; other < JOBS; other++) {
            int known = scheduler.seats[other].known;
            if (job.waitsFor[other] && (known == NONE || jobs[other].zone.localDay(known) < day)) {
                return true;
            }
        }
        return false;
    }

    private void hearAccept(Letter came) {
        Seat seat = seatOf(came);
        if (seat.promise > came.ballot) {
            return;
        }
        seat.accept(came.ballot, came.moment, came.guard);
        answer(came, ACCEPTED).ballot = came.ballot;
    }

    private void hearAccepted(Letter came) {
        Seat seat = seatOf(came);
        if (!seat.isAt(ACCEPTING, came.ballot)) {
            return;
        }
        seat.stage = AT_DESK;
        Letter sent = post.open(EFFECT, came.to, came.job % DESKS, came.job);
        sent.moment = seat.claimed;
        sent.guard = seat.guard;
    }

    private void hearEffect(Letter came) {
        Journal journal = journals[came.job];
        journal.enter(came.moment, came.guard);
        int last = journal.lastMoment();
        if (last == NONE) {
            return;
        }
        for (int to = 0; to < SCHEDULERS; to++) {
            post.open(DONE, came.to, to, came.job).moment = last;
        }
    }

    /**
     * The calendar. Days and months are counted from 1996 on inside: its first day was a Monday and
     * began a leap year, and no day that is asked for lies before it.
     */
    private static final class Months {
        private static final int CYCLE_DAYS = 1461;
        private static final int CYCLE_MONTHS = 48;
        private static final int LONGEST = 31;

        /** On which day of four years, the first a leap year, each month begins. */
        private static final int[] STARTS = {
            0, 31, 60, 91, 121, 152, 182, 213, 244, 274, 305, 335,
            366, 397, 425, 456, 486, 517, 547, 578, 609, 639, 670, 700,
            731, 762, 790, 821, 851, 882, 912, 943, 974, 1004, 1035, 1065,
            1096, 1127, 1155, 1186, 1216, 1247, 1277, 1308, 1339, 1369, 1400, 1430,
            1461};

        static int weekdayOf(int day) {
            return (day + CYCLE_DAYS) % WEEKDAYS;
        }

        static int monthOf(int day) {
            int count = day + CYCLE_DAYS;
            int rest = count % CYCLE_DAYS;
            // Four years are less than a month short of 48 of the longest months: one step mends it.
            int month = rest / LONGEST;
            if (rest >= STARTS[month + 1]) {
                month++;
            }
            return count / CYCLE_DAYS * CYCLE_MONTHS + month;
        }

        static int firstDayOf(int month) {
            return (month / CYCLE_MONTHS - 1) * CYCLE_DAYS + STARTS[month % CYCLE_MONTHS];
        }

        static int lengthOf(int month) {
            int place = month % CYCLE_MONTHS;
            return STARTS[place + 1] - STARTS[place];
        }
    }

    /** Local minutes by PARTS: part 0 before all shifts, part i from shift i on; and holidays. */
    private static final class Zone {
        private final int[] starts = new int[MOST_SHIFTS + 1];
        private final int[] offsets = new int[MOST_SHIFTS + 1];
        private final int[] holidays = new int[MOST_HOLIDAYS];
        private int parts = 1;
        private int holidayCount = 0;

        boolean addShift(int minute, int offset) {
            // Part 0 begins at minute 0 without a shift, so a first shift may stand there too.
            if (parts > MOST_SHIFTS || parts > 1 && starts[parts - 1] >= minute) {
                return false;
            }
            starts[parts] = minute;
            offsets[parts] = offset;
            parts++;
            return true;
        }

        boolean addHoliday(int day) {
            if (holidayCount >= MOST_HOLIDAYS || isHoliday(day)) {
                return false;
            }
            holidays[holidayCount] = day;
            holidayCount++;
            return true;
        }

        boolean isHoliday(int day) {
            for (int i = 0; i < holidayCount; i++) {
                if (holidays[i] == day) {
                    return true;
                }
            }
            return false;
        }

        /** The first day from one on that isn't free; beyond the last one if there is none. */
        int workdayFrom(int day, int last) {
            for (int next = day; next <= last; next++) {
                if (Months.weekdayOf(next) < SATURDAY && !isHoliday(next)) {
                    return next;
                }
            }
            return last + 1;
        }

        int endOf(int part) {
            return part + 1 < parts ? starts[part + 1] - 1 : LAST_MINUTE;
        }

        int localMinute(int minute) {
            int part = parts - 1;
            while (part > 0 && starts[part] > minute) {
                part--;
            }
            return minute + offsets[part];
        }

        int localDay(int minute) {
            return Math.floorDiv(localMinute(minute), DAY_MINUTES);
        }

        /** The first local minute that a part has from a minute on, or that is skipped there. */
        int firstLocal(int part, int from) {
            int start = starts[part];
            if (from > start || start == 0) {
                return from + offsets[part];
            }
            return start + Math.min(offsets[part - 1], offsets[part]);
        }

        /** Up to where an earlier part had a part's local minutes from this one on; below it if none. */
        int hadUpTo(int part, int local) {
            for (int i = 0; i < part; i++) {
                int last = endOf(i) + offsets[i];
                if (starts[i] + offsets[i] <= local && local <= last) {
                    return last;
                }
            }
            return local - 1;
        }
    }

    /** Which days fit, and which minutes of a day are meant. */
    private static final class Rule {
        private static final int HALF_MINUTES = (1 << 30) - 1;
        private static final int ALL_HOURS = (1 << 24) - 1;
        private static final long ALL_DAYS = (1L << 32) - 1;
        private static final int ALL_MONTHS = (1 << 13) - 2;
        private static final int ALL_WEEKDAYS = (1 << WEEKDAYS) - 1;
        /** Times this, the bits of a week stand five times, one week behind the other. */
        private static final long FIVE_WEEKS = 1L | 1L << 7 | 1L << 14 | 1L << 21 | 1L << 28;

        private long minutes = 1;
        private int hours = 1;
        private long days = ALL_DAYS;
        private int months = ALL_MONTHS;
        private int weekdays = ALL_WEEKDAYS;
        private int nthWeekday = 0;
        private int nthPlace = 0;

        boolean changeMask(int mask, int high, int low) {
            switch (mask) {
                case 0:
                    minutes = (long) (high & HALF_MINUTES) << 30 | low & HALF_MINUTES;
                    return true;
                case 1:
                    hours = low & ALL_HOURS;
                    return true;
                case 2:
                    days = low & ALL_DAYS;
                    return true;
                case 3:
                    months = low & ALL_MONTHS;
                    return true;
                case 4:
                    weekdays = low & ALL_WEEKDAYS;
                    return true;
                default:
                    return false;
            }
        }

        /** The days of a month that fit, as bits 1 .. 31. */
        long fittingDays(int month) {
            if ((months >> month % 12 + 1 & 1) == 0) {
                return 0;
            }
            int length = Months.lengthOf(month);
            long fitting = days & (1L << length + 1) - 2;
            if ((days & 1) != 0) {
                fitting |= 1L << length;
            }
            int week = weekdays;
            if (nthPlace != 0) {
                week &= 1 << nthWeekday;
                fitting &= nthWeek(length);
            }
            int first = Months.weekdayOf(Months.firstDayOf(month));
            int weekFromFirst = (week >> first | week << WEEKDAYS - first) & ALL_WEEKDAYS;
            return fitting & weekFromFirst * FIVE_WEEKS << 1;
        }

        /** The seven days of a month of this length among which the NTH is. */
        private long nthWeek(int length) {
            int firstDay = nthPlace == NTH_LAST ? length - 6 : WEEKDAYS * nthPlace - 6;
            return (long) ALL_WEEKDAYS << firstDay;
        }

        boolean hasNoMinute() {
            return minutes == 0 || hours == 0;
        }

        /** Where there are any: the first meant minute of a day from one on, or DAY_MINUTES. */
        int minuteOfDayFrom(int from) {
            int hour = from / 60;
            long rest = minutes >>> from % 60;
            if ((hours >> hour & 1) != 0 && rest != 0) {
                return from + lowestBit(rest);
            }
            int later = hours >> hour + 1;
            if (later == 0) {
                return DAY_MINUTES;
            }
            return (hour + 1 + lowestBit(later)) * 60 + lowestBit(minutes);
        }

        private static int lowestBit(long bits) {
            return Long.bitCount((bits & -bits) - 1);
        }
    }

    /** A job: when it is due, and how its moments are taken up. */
    private static final class Job {
        private final Rule rule = new Rule();
        private final int[] exceptions = new int[MOST_EXCEPTIONS];
        private final boolean[] waitsFor = new boolean[JOBS];
        private Zone zone;
        private int exceptionCount = 0;
        private boolean moved = false;
        private int mode = 0;
        private int lateness = DAY_MINUTES;
        private boolean paused = false;

        Job(Zone zone) {
            this.zone = zone;
        }

        boolean changeMode(int value) {
            if (value < 0 || value > MODE_NONE) {
                return false;
            }
            mode = value;
            return true;
        }

        boolean changeLateness(int value) {
            if (value < 0 || value > MOST_LATENESS) {
                return false;
            }
            lateness = value;
            return true;
        }

        boolean addException(int minute) {
            if (exceptionCount >= MOST_EXCEPTIONS || isException(minute)) {
                return false;
            }
            exceptions[exceptionCount] = minute;
            exceptionCount++;
            return true;
        }

        private boolean isException(int minute) {
            for (int i = 0; i < exceptionCount; i++) {
                if (exceptions[i] == minute) {
                    return true;
                }
            }
            return false;
        }

        /** The first day of the job from one on; beyond the last one if there is none up to it. */
        private int firstJobDay(int from, int last) {
            int early = moved ? from - MOST_MOVED : from;
            int lastMonth = Months.monthOf(last);
            for (int month = Months.monthOf(early); month <= lastMonth; month++) {
                long fitting = rule.fittingDays(month);
                int before = Months.firstDayOf(month) - 1;
                for (int d = 1; d <= Months.LONGEST && fitting >> d != 0; d++) {
                    int day = before + d;
                    if ((fitting >> d & 1) != 0 && day >= early) {
                        int found = moved ? zone.workdayFrom(day, day + MOST_MOVED) : day;
                        if (found >= from && found <= day + MOST_MOVED) {
                            return found;
                        }
                    }
                }
            }
            return last + 1;
        }

        /** The first local minute of the job from one on; beyond the last one if none is up to it. */
        private int firstJobMinute(int from, int last) {
            if (from > last || rule.hasNoMinute()) {
                return last + 1;
            }
            int today = Math.floorDiv(from, DAY_MINUTES);
            int lastDay = Math.floorDiv(last, DAY_MINUTES);
            int day = firstJobDay(today, lastDay);
            int minute = rule.minuteOfDayFrom(day == today ? from - today * DAY_MINUTES : 0);
            if (minute >= DAY_MINUTES) {
                day = firstJobDay(today + 1, lastDay);
                minute = rule.minuteOfDayFrom(0);
            }
            return day > lastDay ? last + 1 : day * DAY_MINUTES + minute;
        }

        /** The first due minute from one on, up to a last one; NONE if there is none. */
        int firstDue(int from, int to) {
            for (int part = 0; part < zone.parts; part++) {
                int offset = zone.offsets[part];
                int start = Math.max(from, zone.starts[part]);
                int last = Math.min(to, zone.endOf(part)) + offset;
                if (start + offset > last) {
                    continue;
                }
                int local = firstJobMinute(zone.firstLocal(part, start), last);
                // Each turn leaves an exception or all that an earlier part had: 16 turns at most.
                for (int turn = 0; turn < 100 && local <= last; turn++) {
                    // A skipped local minute stands for the shift's minute, whatever was before.
                    int minute = Math.max(start, local - offset);
                    int had = minute == local - offset ? zone.hadUpTo(part, local) : local - 1;
                    if (had < local && !isException(minute)) {
                        return minute;
                    }
                    local = firstJobMinute(Math.max(had, minute + offset) + 1, last);
                }
            }
            return NONE;
        }

        private int earliestWanted(int behind, int now) {
            return Math.max(behind + 1, mode == MODE_NONE ? now : now - lateness);
        }

        boolean hasNext(int behind, int now) {
            return firstDue(earliestWanted(behind, now), now) != NONE;
        }

        int nextMoment(int behind, int now) {
            int found = firstDue(earliestWanted(behind, now), now);
            if (mode != MODE_NEWEST || found == NONE) {
                return found;
            }
            // Halving: a due minute is found, and none lies above high. 32 turns halve any int.
            int high = now;
            for (int turn = 0; turn < 32 && found < high; turn++) {
                int middle = high - (high - found) / 2;
                int later = firstDue(middle, high);
                if (later == NONE) {
                    high = middle - 1;
                } else {
                    found = later;
                }
            }
            return found;
        }
    }

    /** What a scheduler has for one job. */
    private static final class Seat {
        private int promise = 0;
        private int acceptedBallot = 0;
        private int acceptedMoment = NONE;
        private int acceptedGuard = 0;
        private int known = NONE;
        private int stage = NO_ROUND;
        private int ballot = 0;
        private int claimed = NONE;
        private int guard = 0;

        void beginRound(int s) {
            endRound();
            int turns = promise > s ? (promise - s - 1) / SCHEDULERS + 1 : 0;
            ballot = s + 1 + SCHEDULERS * turns;
            promise = ballot;
            stage = PREPARING;
        }

        void endRound() {
            stage = NO_ROUND;
            ballot = 0;
            claimed = NONE;
            guard = 0;
        }

        boolean isAt(int askedStage, int askedBallot) {
            return stage == askedStage && ballot == askedBallot;
        }

        /** The round keeps its guard: what is accepted later by another ballot is not its claim. */
        void claim(int moment, int newGuard) {
            accept(ballot, moment, newGuard);
            stage = ACCEPTING;
            claimed = moment;
            guard = newGuard;
        }

        void accept(int newBallot, int moment, int newGuard) {
            promise = newBallot;
            acceptedBallot = newBallot;
            acceptedMoment = moment;
            acceptedGuard = newGuard;
        }

        void learn(int moment) {
            known = Math.max(known, moment);
            if (stage == AT_DESK && claimed <= known) {
                endRound();
            }
        }

        int tell(int what) {
            switch (what) {
                case 0:
                    return promise;
                case 1:
                    return acceptedBallot;
                case 2:
                    return acceptedMoment;
                case 3:
                    return acceptedGuard;
                case 4:
                    return known;
                case 5:
                    return stage;
                case 6:
                    return ballot;
                case 7:
                    return claimed;
                default:
                    return NONE;
            }
        }
    }

    private static final class Scheduler {
        private final Seat[] seats = new Seat[JOBS];
        private boolean running = true;

        Scheduler() {
            for (int job = 0; job < JOBS; job++) {
                seats[job] = new Seat();
            }
        }

        void forget() {
            for (int job = 0; job < JOBS; job++) {
                seats[job].known = NONE;
                seats[job].endRound();
            }
        }
    }

    /** What a desk keeps for one job. */
    private static final class Journal {
        private final int[] moments = new int[MOST_EFFECTS];
        private final int[] guards = new int[MOST_EFFECTS];
        private int count = 0;
        private int greatestGuard = 0;

        int lastMoment() {
            return count > 0 ? moments[count - 1] : NONE;
        }

        void enter(int moment, int guard) {
            boolean isNewer = guard > greatestGuard;
            greatestGuard = Math.max(greatestGuard, guard);
            if (isNewer && moment > lastMoment() && count < MOST_EFFECTS) {
                moments[count] = moment;
                guards[count] = guard;
                count++;
            }
        }
    }

    private static final class Letter {
        private int kind = 0;
        private int from = 0;
        private int to = 0;
        private int job = 0;
        private int ballot = 0;
        private int moment = NONE;
        private int guard = 0;
        private int acceptedBallot = 0;

        int tell(int what) {
            switch (what) {
                case 0:
                    return kind;
                case 1:
                    return from;
                case 2:
                    return to;
                case 3:
                    return job;
                case 4:
                    return ballot;
                case 5:
                    return moment;
                case 6:
                    return guard;
                case 7:
                    return acceptedBallot;
                default:
                    return NONE;
            }
        }
    }

    /** The row of letters that wait. */
    private static final class Post {
        private final Letter[] row = new Letter[MOST_LETTERS];
        private final Letter lost = new Letter();
        private Letter taken = new Letter();
        private int count = 0;

        Post() {
            for (int i = 0; i < MOST_LETTERS; i++) {
                row[i] = new Letter();
            }
        }

        boolean holds(int i) {
            return i >= 0 && i < count;
        }

        /** A letter that waits behind all, or, if there is no room, one that nobody will read. */
        Letter open(int kind, int from, int to, int job) {
            Letter opened = lost;
            if (count < MOST_LETTERS) {
                opened = row[count];
                count++;
            }
            opened.kind = kind;
            opened.from = from;
            opened.to = to;
            opened.job = job;
            opened.ballot = 0;
            opened.moment = NONE;
            opened.guard = 0;
            opened.acceptedBallot = 0;
            return opened;
        }

        /** Takes a letter out; it may be read until the next one is taken, whatever is sent then. */
        Letter take(int i) {
            Letter out = row[i];
            count--;
            for (int k = i; k < count; k++) {
                row[k] = row[k + 1];
            }
            row[count] = taken;
            taken = out;
            return out;
        }

        void copyToEnd(int i) {
            Letter first = row[i];
            Letter other = open(first.kind, first.from, first.to, first.job);
            other.ballot = first.ballot;
            other.moment = first.moment;
            other.guard = first.guard;
            other.acceptedBallot = first.acceptedBallot;
        }
    }
}
