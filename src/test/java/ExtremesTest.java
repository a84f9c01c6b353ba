import java.util.NoSuchElementException;
import java.util.Random;

/**
 * Every call with every kind of number, the least and the greatest of all among them, in states of all kinds: nothing
 * is thrown but what look() throws, and the answers are those of the Oracle.
 */
public final class ExtremesTest extends Checks {
    private static final int[] POOL = {MIN, MIN + 1, -1_000_000_007, -65_537, -20_001, -10_000, -1000, -101, -100, -21, -20, -10, -9, -7, -6, -3, -2, -1,
        0, 1, 2, 3, 4, 5, 6, 7, 9, 10, 12, 13, 19, 20, 21, 49, 50, 51, 60, 61, 99, 100, 101, 149, 150, 151, 199, 200, 201, 255, 499, 500, 501, 999, 1000,
        2000, 5000, 6000, 6001, 9999, 10_000, 10_001, 20_000, 20_001, 99_999, 100_000, 100_001, 65_536, 1_000_000_007, 214_748_365, MAX - 1, MAX};
    private static final String[] TEXTS = {"", "line 0 80 60 80;", "line 30 40 30 16;line 30 16 30 40;", "again 75 0 0 (line 30 100 30 99;line 30 99 30 100;)",
        "again 99 1 1 (hatch 0 1 200 200 9;)", "form a 0 0 99 99 0 99;again 9 -99 999 (put a 999 999 99;put a 0 0 99;)", "to 0 1;to 0 2;to 0 3;", ")",
        "again 99 999 999 (again 99 999 999 (again 99 -999 -999 (line 0 0 999 999;)))", "clip 998 998 999 999;line 0 0 999 999;", "to 1000 1;"};

    private final Random r;
    private final CordPens x = new CordPens();
    private final Oracle o = new Oracle();

    private ExtremesTest(int seed) { r = new Random(seed); }

    private int any() { return POOL[r.nextInt(POOL.length)]; }
    /** Small ones, so that states of many kinds come up. */
    private int small() { return r.nextInt(3) == 0 ? any() : r.nextInt(4) - 1; }

    private static long asNumber(boolean b) { return b ? 1 : 0; }

    private void feedText() {
        StringBuilder s = new StringBuilder(TEXTS[r.nextInt(TEXTS.length)]);
        int n = s.length();
        while (s.length() % 20 != 0) s.append(' ');
        for (int i = 0; i < s.length(); i += 20) {
            int[] f = new int[5];
            for (int j = 0; j < 20; j++) f[j / 4] = f[j / 4] << 8 | s.charAt(i + j);
            due("feed", x.feed(f[0], f[1], f[2], f[3], f[4]), o.feed(f));
        }
        due("draw", x.draw(n), o.draw(n));
    }

    private long oracleLook(int move, int what) {
        try {
            return o.look(move, what);
        } catch (IndexOutOfBoundsException e) {
            return NO_MOVE;
        } catch (NoSuchElementException e) {
            return NO_WHAT;
        }
    }

    private void one() {
        int a = any(), b = any(), c = any(), m = small(), w = small();
        String all = a + " " + b + " " + c + " " + m + " " + w;
        switch (r.nextInt(33)) {
            case 0 -> due("feed " + all, x.feed(a, b, c, m, w), o.feed(a, b, c, m, w));
            case 1 -> due("wall " + all, asNumber(x.wall(a, b, c)), asNumber(o.wall(a, b, c)));
            case 2 -> due("set " + all, asNumber(x.set(w, b)), asNumber(o.set(w, b)));
            case 3 -> due("draw " + all, x.draw(a), o.draw(a));
            case 4 -> due("fault " + all, x.fault(w), o.fault(w, true));
            case 5 -> due("look " + all, look(x, m, w), oracleLook(m, w));
            case 6 -> due("steps " + all, x.steps(a, b, w), o.steps(a, b, w));
            case 7 -> due("place " + all, x.place(a, b, w), o.place(a, b, w));
            case 8 -> due("grain " + all, x.grain(a, b), o.grain(a, b));
            case 9 -> due("pull " + all, x.pull(a, b, w), o.pull(a, b, w));
            case 10 -> due("reach", x.reach(), o.reach());
            case 11 -> due("sag " + all, x.sag(m), o.sag(m));
            case 12 -> due("parts " + all, x.parts(m, a), o.parts(m, a));
            case 13 -> due("skips " + all, x.skips(a), o.skips(a));
            case 14 -> due("ticks " + all, x.ticks(w), o.ticks(w));
            case 15 -> due("miss " + all, asNumber(x.miss(m, w, a)), asNumber(o.miss(m, w, a)));
            case 16 -> due("real " + all, x.real(m, w), o.real(m, w));
            case 17 -> due("seen " + all, x.seen(m, a, b), o.seen(m, a, b));
            case 18 -> due("forget", x.forget(), o.forget());
            case 19 -> due("found " + all, x.found(a, w), o.found(a, w));
            case 20 -> due("mended " + all, x.mended(m, a, w), o.mended(m, a, w));
            case 21 -> due("other", x.other(), o.other());
            case 22 -> due("clear " + all, x.clear(a, b, m, w), o.clear(a, b, m, w));
            case 23 -> due("together " + all, x.together(a, b), o.together(a, b));
            case 24 -> due("joint " + all, x.joint(a, b, w), o.joint(a, b, w));
            case 25 -> due("mark " + all, x.mark(a, b, c, m), o.mark(a, b, c, m));
            case 26 -> due("offset " + all, x.offset(a, w), o.offset(a, w));
            case 27 -> { x.begin(); o.begin(); }
            case 28 -> due("tick " + all, x.tick(a), o.tick(a));
            case 29 -> due("run " + all, x.run(w), o.run(w));
            case 30 -> due("count " + all, x.count(a), o.count(a));
            default -> feedText();
        }
    }

    @Says("Nothing is promised beyond the answers and state changes described above")
    private static void anyNumbersInAnyState() {
        for (int seed = 0; seed < 250; seed++) {
            ExtremesTest t = new ExtremesTest(seed);
            for (int i = 0; i < 150; i++) t.one();
        }
    }

    public static void main(String[] args) { runAll(ExtremesTest.class); }
}
