import java.time.LocalDate;
import java.time.YearMonth;
import java.util.ArrayList;
import java.util.HashMap;
import java.util.HashSet;
import java.util.List;
import java.util.Map;
import java.util.Set;

/**
 * The document once more, as near to its words as can be and without a thought of speed: every
 * minute is looked at by itself, and the calendar is the Java library's. Tests compare TickKeeper
 * with it.
 */
final class PlainModel {
    static final int LAST = 52595999;
    private static final LocalDate FIRST_DAY = LocalDate.of(2000, 1, 1);

    private static final class Zone {
        final List<int[]> shifts = new ArrayList<>();
        final Set<Integer> holidays = new HashSet<>();
    }

    private static final class Job {
        final boolean[][] masks = {new boolean[60], new boolean[24], new boolean[32], new boolean[13], new boolean[7]};
        int nthWeekday;
        int nth;
        int zone;
        boolean moved;
        int mode;
        int lateness = 1440;
        boolean paused;
        final Set<Integer> exceptions = new HashSet<>();
        final Set<Integer> waits = new HashSet<>();
        final Map<Integer, Boolean> days = new HashMap<>();
        final List<int[]> effects = new ArrayList<>();
        int greatestGuard;
    }

    private static final class Cell {
        int promise;
        int accBallot;
        int accMoment = -1;
        int accGuard;
        int knows = -1;
        int[] round;
    }

    private final Zone[] zones = new Zone[4];
    private final Job[] jobs = new Job[8];
    private final Cell[][] cells = new Cell[3][8];
    private final boolean[] up = {true, true, true};
    private final boolean[] deskOn = {true, true};
    private final List<int[]> row = new ArrayList<>();
    private int time;

    PlainModel() {
        for (int z = 0; z < 4; z++) {
            zones[z] = new Zone();
        }
        for (int j = 0; j < 8; j++) {
            jobs[j] = new Job();
            for (int m = 0; m < 5; m++) {
                for (int b = 0; b < jobs[j].masks[m].length; b++) {
                    jobs[j].masks[m][b] = m >= 2 || b == 0;
                }
            }
            for (int s = 0; s < 3; s++) {
                cells[s][j] = new Cell();
            }
        }
    }

    private static boolean in(int x, int from, int to) {
        return x >= from && x <= to;
    }

    private void forgetDays() {
        for (Job job : jobs) {
            job.days.clear();
        }
    }

    boolean time(int minute) {
        if (minute < time || minute > LAST) {
            return false;
        }
        time = minute;
        return true;
    }

    boolean shift(int zone, int minute, int offset) {
        if (!in(zone, 0, 3) || !in(minute, 0, LAST) || !in(offset, -900, 900)) {
            return false;
        }
        List<int[]> shifts = zones[zone].shifts;
        if (shifts.size() == 8 || !shifts.isEmpty() && shifts.get(shifts.size() - 1)[0] >= minute) {
            return false;
        }
        shifts.add(new int[] {minute, offset});
        return true;
    }

    boolean holiday(int zone, int day) {
        if (!in(zone, 0, 3) || !in(day, 0, 36524) || zones[zone].holidays.contains(day)
            || zones[zone].holidays.size() == 16) {
            return false;
        }
        zones[zone].holidays.add(day);
        forgetDays();
        return true;
    }

    boolean mask(int job, int mask, int high, int low) {
        if (!in(job, 0, 7) || !in(mask, 0, 4)) {
            return false;
        }
        boolean[] bits = jobs[job].masks[mask];
        for (int b = 0; b < bits.length; b++) {
            boolean fromHigh = mask == 0 && b >= 30;
            bits[b] = ((fromHigh ? high >>> b - 30 : low >>> b) & 1) == 1;
        }
        forgetDays();
        return true;
    }

    boolean nth(int job, int weekday, int n) {
        if (!in(job, 0, 7) || !in(weekday, 0, 6) || !in(n, 0, 6)) {
            return false;
        }
        jobs[job].nthWeekday = weekday;
        jobs[job].nth = n;
        forgetDays();
        return true;
    }

    boolean set(int job, int what, int value) {
        if (!in(job, 0, 7) || !in(what, 0, 4) || what == 0 && !in(value, 0, 3) || what == 2 && !in(value, 0, 2)
            || what == 3 && !in(value, 0, 100000)) {
            return false;
        }
        Job j = jobs[job];
        if (what == 0) {
            j.zone = value;
        } else if (what == 1) {
            j.moved = value != 0;
        } else if (what == 2) {
            j.mode = value;
        } else if (what == 3) {
            j.lateness = value;
        } else {
            j.paused = value != 0;
        }
        forgetDays();
        return true;
    }

    boolean except(int job, int minute) {
        if (!in(job, 0, 7) || !in(minute, 0, LAST) || jobs[job].exceptions.size() == 8) {
            return false;
        }
        return jobs[job].exceptions.add(minute);
    }

    boolean after(int job, int other, boolean on) {
        if (!in(job, 0, 7) || !in(other, 0, 7) || job == other) {
            return false;
        }
        if (on) {
            jobs[job].waits.add(other);
        } else {
            jobs[job].waits.remove(other);
        }
        return true;
    }

    private int localOf(int zone, int minute) {
        int offset = 0;
        for (int[] shift : zones[zone].shifts) {
            if (minute >= shift[0]) {
                offset = shift[1];
            }
        }
        return minute + offset;
    }

    int local(int zone, int minute) {
        return in(zone, 0, 3) && in(minute, 0, LAST) ? localOf(zone, minute) : -1;
    }

    private boolean isFree(int zone, int day) {
        int weekday = FIRST_DAY.plusDays(day).getDayOfWeek().getValue() - 1;
        return weekday >= 5 || zones[zone].holidays.contains(day);
    }

    private static boolean fits(Job job, int day) {
        LocalDate date = FIRST_DAY.plusDays(day);
        int weekday = date.getDayOfWeek().getValue() - 1;
        int inMonth = date.getDayOfMonth();
        boolean isLast = inMonth == YearMonth.from(date).lengthOfMonth();
        if (!job.masks[3][date.getMonthValue()] || !job.masks[4][weekday]) {
            return false;
        }
        if (!job.masks[2][inMonth] && !(isLast && job.masks[2][0])) {
            return false;
        }
        if (job.nth == 0) {
            return true;
        }
        if (weekday != job.nthWeekday) {
            return false;
        }
        if (job.nth == 6) {
            return date.plusDays(7).getMonthValue() != date.getMonthValue();
        }
        int place = 0;
        for (LocalDate d = date; d.getMonthValue() == date.getMonthValue(); d = d.minusDays(7)) {
            place++;
        }
        return place == job.nth;
    }

    private boolean isJobDayNew(Job job, int day) {
        if (!job.moved) {
            return fits(job, day);
        }
        if (isFree(job.zone, day)) {
            return false;
        }
        if (fits(job, day)) {
            return true;
        }
        for (int back = 1; back <= 20 && isFree(job.zone, day - back); back++) {
            if (fits(job, day - back)) {
                return true;
            }
        }
        return false;
    }

    private boolean isJobMinute(Job job, int local) {
        int inDay = Math.floorMod(local, 1440);
        if (!job.masks[1][inDay / 60] || !job.masks[0][inDay % 60]) {
            return false;
        }
        int day = Math.floorDiv(local, 1440);
        Boolean known = job.days.get(day);
        if (known == null) {
            known = isJobDayNew(job, day);
            job.days.put(day, known);
        }
        return known;
    }

    private boolean wasBefore(int zone, int minute) {
        int local = localOf(zone, minute);
        boolean near = false;
        for (int[] shift : zones[zone].shifts) {
            near |= shift[0] <= minute && shift[0] > minute - 2000;
        }
        // Two offsets differ by at most 1800: no other minute can have the same local one.
        for (int m = Math.max(0, minute - 2000); near && m < minute; m++) {
            if (localOf(zone, m) == local) {
                return true;
            }
        }
        return false;
    }

    private boolean dueAt(int j, int minute) {
        Job job = jobs[j];
        if (job.exceptions.contains(minute)) {
            return false;
        }
        int local = localOf(job.zone, minute);
        if (isJobMinute(job, local) && !wasBefore(job.zone, minute)) {
            return true;
        }
        boolean isShift = false;
        for (int[] shift : zones[job.zone].shifts) {
            isShift |= shift[0] == minute;
        }
        if (!isShift || minute == 0) {
            return false;
        }
        for (int skipped = localOf(job.zone, minute - 1) + 1; skipped < local; skipped++) {
            if (isJobMinute(job, skipped)) {
                return true;
            }
        }
        return false;
    }

    boolean isDue(int job, int minute) {
        return in(job, 0, 7) && in(minute, 0, LAST) && dueAt(job, minute);
    }

    int due(int job, int from) {
        if (!in(job, 0, 7) || !in(from, 0, LAST)) {
            return -1;
        }
        for (int m = from; m <= LAST; m++) {
            if (dueAt(job, m)) {
                return m;
            }
        }
        return -1;
    }

    private int next(int j, int x, int t) {
        Job job = jobs[j];
        if (job.mode == 2) {
            return t > x && dueAt(j, t) ? t : -1;
        }
        int found = -1;
        for (int m = Math.max(x + 1, t - job.lateness); m <= t; m++) {
            if (dueAt(j, m)) {
                found = m;
                if (job.mode == 0) {
                    return found;
                }
            }
        }
        return found;
    }

    private void send(int... letter) {
        if (row.size() < 60) {
            row.add(letter);
        }
    }

    private void sendOthers(int s, int... letter) {
        for (int to = 0; to < 3; to++) {
            if (to != s) {
                int[] copy = letter.clone();
                copy[2] = to;
                send(copy);
            }
        }
    }

    int wake(int s) {
        if (!in(s, 0, 2) || !up[s]) {
            return -1;
        }
        int begun = 0;
        for (int j = 0; j < 8; j++) {
            Cell c = cells[s][j];
            if (jobs[j].paused || c.accMoment <= c.knows && next(j, c.accMoment, time) == -1) {
                continue;
            }
            int ballot = s + 1;
            while (ballot <= c.promise) {
                ballot += 3;
            }
            c.promise = ballot;
            c.round = new int[] {ballot, 1, -1, 0};
            sendOthers(s, 0, s, -1, j, ballot, -1, 0, 0);
            begun++;
        }
        return begun;
    }

    boolean up(int s, boolean on) {
        if (!in(s, 0, 2) || up[s] == on) {
            return false;
        }
        up[s] = on;
        for (int j = 0; j < 8; j++) {
            cells[s][j].knows = -1;
            cells[s][j].round = null;
        }
        return true;
    }

    boolean desk(int d, boolean on) {
        if (!in(d, 0, 1) || deskOn[d] == on) {
            return false;
        }
        deskOn[d] = on;
        return true;
    }

    int letters() {
        return row.size();
    }

    int deliver(int i) {
        if (!in(i, 0, row.size() - 1)) {
            return -1;
        }
        int[] letter = row.remove(i);
        if (letter[0] == 4) {
            if (deskOn[letter[2]]) {
                effectCame(letter);
            }
        } else if (up[letter[2]]) {
            schedulerGot(letter);
        }
        return letter[0];
    }

    private void effectCame(int[] letter) {
        Job job = jobs[letter[3]];
        int last = job.effects.isEmpty() ? -1 : job.effects.get(job.effects.size() - 1)[0];
        if (letter[6] > job.greatestGuard) {
            job.greatestGuard = letter[6];
            if (letter[5] > last && job.effects.size() < 40) {
                job.effects.add(new int[] {letter[5], letter[6]});
                last = letter[5];
            }
        }
        for (int s = 0; s < 3 && last != -1; s++) {
            send(5, letter[2], s, letter[3], 0, last, 0, 0);
        }
    }

    private void schedulerGot(int[] letter) {
        int j = letter[3];
        int ballot = letter[4];
        Cell c = cells[letter[2]][j];
        if (letter[0] == 0 && c.promise <= ballot) {
            c.promise = ballot;
            send(1, letter[2], letter[1], j, ballot, c.accMoment, c.accGuard, c.accBallot);
        } else if (letter[0] == 1 && c.round != null && c.round[0] == ballot && c.round[1] == 1 && c.promise == ballot) {
            promisedCame(letter, c);
        } else if (letter[0] == 2 && c.promise <= ballot) {
            c.promise = ballot;
            c.accBallot = ballot;
            c.accMoment = letter[5];
            c.accGuard = letter[6];
            send(3, letter[2], letter[1], j, ballot, -1, 0, 0);
        } else if (letter[0] == 3 && c.round != null && c.round[0] == ballot && c.round[1] == 2) {
            c.round[1] = 3;
            send(4, letter[2], j % 2, j, 0, c.round[2], c.round[3], 0);
        } else if (letter[0] == 5) {
            c.knows = Math.max(c.knows, letter[5]);
            if (c.round != null && c.round[1] == 3 && c.round[2] <= c.knows) {
                c.round = null;
            }
        }
    }

    private void promisedCame(int[] letter, Cell c) {
        int s = letter[2];
        int j = letter[3];
        int lastMoment = c.accMoment;
        int lastGuard = c.accGuard;
        if (letter[7] > c.accBallot) {
            lastMoment = letter[5];
            lastGuard = letter[6];
        }
        int moment = lastMoment > c.knows ? lastMoment : next(j, lastMoment, time);
        if (moment == -1 || jobs[j].paused || waits(s, j, moment)) {
            c.round = null;
            return;
        }
        c.accBallot = letter[4];
        c.accMoment = moment;
        c.accGuard = lastGuard + 1;
        c.round = new int[] {letter[4], 2, moment, lastGuard + 1};
        sendOthers(s, 2, s, -1, j, letter[4], moment, lastGuard + 1, 0);
    }

    private boolean waits(int s, int j, int moment) {
        int day = Math.floorDiv(localOf(jobs[j].zone, moment), 1440);
        for (int other : jobs[j].waits) {
            int known = cells[s][other].knows;
            if (known == -1 || Math.floorDiv(localOf(jobs[other].zone, known), 1440) < day) {
                return true;
            }
        }
        return false;
    }

    boolean lose(int i) {
        if (!in(i, 0, row.size() - 1)) {
            return false;
        }
        row.remove(i);
        return true;
    }

    boolean twin(int i) {
        if (!in(i, 0, row.size() - 1) || row.size() == 60) {
            return false;
        }
        row.add(row.get(i).clone());
        return true;
    }

    int letter(int i, int what) {
        return in(i, 0, row.size() - 1) && in(what, 0, 7) ? row.get(i)[what] : -1;
    }

    int register(int s, int job, int what) {
        if (!in(s, 0, 2) || !in(job, 0, 7) || !in(what, 0, 7)) {
            return -1;
        }
        Cell c = cells[s][job];
        int[] round = c.round == null ? new int[] {0, 0, -1, 0} : c.round;
        return new int[] {
            c.promise, c.accBallot, c.accMoment, c.accGuard, c.knows, round[1], round[0], round[2]}[what];
    }

    int effects(int job) {
        return in(job, 0, 7) ? jobs[job].effects.size() : -1;
    }

    int effect(int job, int i, int what) {
        return in(job, 0, 7) && in(i, 0, jobs[job].effects.size() - 1) && in(what, 0, 1)
            ? jobs[job].effects.get(i)[what] : -1;
    }
}
