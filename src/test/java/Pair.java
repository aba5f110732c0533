/** Gives each call to a TickKeeper and to the plain model, and checks that both answer the same. */
final class Pair {
    private final Check check;
    private final String name;
    private final TickKeeper real = new TickKeeper();
    private final PlainModel plain = new PlainModel();
    private int calls = 0;

    Pair(String name, Check check) {
        this.name = name;
        this.check = check;
    }

    int calls() {
        return calls;
    }

    private int same(String call, int got, int want) {
        calls++;
        check.is(name + ", call " + calls + ": " + call, got, want);
        return want;
    }

    private boolean same(String call, boolean got, boolean want) {
        return same(call, got ? 1 : 0, want ? 1 : 0) == 1;
    }

    private static String told(String call, int... values) {
        StringBuilder text = new StringBuilder(call).append('(');
        for (int i = 0; i < values.length; i++) {
            text.append(i == 0 ? "" : ", ").append(values[i]);
        }
        return text.append(')').toString();
    }

    boolean time(int m) {
        return same(told("time", m), real.time(m), plain.time(m));
    }

    boolean shift(int z, int m, int o) {
        return same(told("shift", z, m, o), real.shift(z, m, o), plain.shift(z, m, o));
    }

    boolean holiday(int z, int d) {
        return same(told("holiday", z, d), real.holiday(z, d), plain.holiday(z, d));
    }

    boolean mask(int j, int m, int high, int low) {
        return same(told("mask", j, m, high, low), real.mask(j, m, high, low), plain.mask(j, m, high, low));
    }

    boolean nth(int j, int w, int n) {
        return same(told("nth", j, w, n), real.nth(j, w, n), plain.nth(j, w, n));
    }

    boolean set(int j, int what, int value) {
        return same(told("set", j, what, value), real.set(j, what, value), plain.set(j, what, value));
    }

    boolean except(int j, int m) {
        return same(told("except", j, m), real.except(j, m), plain.except(j, m));
    }

    boolean after(int j, int other, boolean on) {
        return same(told("after", j, other, on ? 1 : 0), real.after(j, other, on), plain.after(j, other, on));
    }

    boolean isDue(int j, int m) {
        return same(told("isDue", j, m), real.isDue(j, m), plain.isDue(j, m));
    }

    int due(int j, int from) {
        return same(told("due", j, from), real.due(j, from), plain.due(j, from));
    }

    int local(int z, int m) {
        return same(told("local", z, m), real.local(z, m), plain.local(z, m));
    }

    int wake(int s) {
        return same(told("wake", s), real.wake(s), plain.wake(s));
    }

    boolean up(int s, boolean on) {
        return same(told("up", s, on ? 1 : 0), real.up(s, on), plain.up(s, on));
    }

    boolean desk(int d, boolean on) {
        return same(told("desk", d, on ? 1 : 0), real.desk(d, on), plain.desk(d, on));
    }

    int letters() {
        return same("letters()", real.letters(), plain.letters());
    }

    int deliver(int i) {
        return same(told("deliver", i), real.deliver(i), plain.deliver(i));
    }

    boolean lose(int i) {
        return same(told("lose", i), real.lose(i), plain.lose(i));
    }

    boolean twin(int i) {
        return same(told("twin", i), real.twin(i), plain.twin(i));
    }

    int letter(int i, int what) {
        return same(told("letter", i, what), real.letter(i, what), plain.letter(i, what));
    }

    int register(int s, int j, int what) {
        return same(told("register", s, j, what), real.register(s, j, what), plain.register(s, j, what));
    }

    int effects(int j) {
        return same(told("effects", j), real.effects(j), plain.effects(j));
    }

    int effect(int j, int i, int what) {
        return same(told("effect", j, i, what), real.effect(j, i, what), plain.effect(j, i, what));
    }

    /**
     * All that can be seen of letters, schedulers and desks, between two calls of a run. These looks
     * are not counted among an object's 512 calls: they change nothing, and TickKeeper counts no calls.
     */
    void compareAll() {
        int before = calls;
        for (int i = -1; i <= letters(); i++) {
            for (int what = -1; what <= 8; what++) {
                letter(i, what);
            }
        }
        for (int j = -1; j <= 8; j++) {
            for (int s = -1; s <= 3; s++) {
                for (int what = -1; what <= 8; what++) {
                    register(s, j, what);
                }
            }
            for (int i = -1; i <= effects(j); i++) {
                for (int what = -1; what <= 2; what++) {
                    effect(j, i, what);
                }
            }
        }
        calls = before;
    }
}
