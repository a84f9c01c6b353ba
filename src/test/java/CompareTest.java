import java.util.NoSuchElementException;
import java.util.Random;

/** Long runs of calls, drawn by fixed seeds, on a CordPens and on the Oracle: the answers must be the same. */
public final class CompareTest {
    private static int wrong = 0;
    private static int calls = 0;

    private final Random r;
    private final int seed;
    private final CordPens x = new CordPens();
    private final Oracle o = new Oracle();
    private final StringBuilder log = new StringBuilder();

    private CompareTest(int seed) { this.seed = seed; r = new Random(seed); }

    private int in(int low, int high) { return low + r.nextInt(high - low + 1); }
    /** Mostly within, now and then just beyond. */
    private int near(int low, int high) {
        int c = r.nextInt(12);
        return c == 0 ? low - 1 : c == 1 ? high + 1 : c == 2 ? low : c == 3 ? high : in(low, high);
    }

    private void same(String call, long got, long want) {
        calls++;
        if (got != want) {
            wrong++;
            if (wrong < 20) System.out.println("seed " + seed + ": " + call + " answered " + got + ", the oracle " + want + "\n   behind" + log);
        }
    }
    private void same(String call, boolean got, boolean want) { same(call, got ? 1 : 0, want ? 1 : 0); }

    private String statement(int depth) {
        int w = o.W, h = o.H;
        String n = " " + in(0, w + w / 3);
        switch (r.nextInt(depth > 4 ? 9 : 11)) {
            case 0: return "form " + name() + points();
            case 1: case 2: return "put " + name() + " " + in(0, w) + " " + in(0, h) + " " + in(0, 9) + ";";
            case 3: case 4: return "line" + n + " " + in(0, h + 20) + " " + in(0, w + 20) + " " + in(0, h + 20) + ";";
            case 5: return "to " + in(0, w + 5) + " " + in(0, h + 5) + ";";
            case 6: case 7: return "hatch" + n + " " + in(0, h) + " " + in(0, w) + " " + in(0, h) + " " + in(1, 40) + ";";
            case 8: int a = in(0, w), b = in(0, h); return "clip " + a + " " + b + " " + in(a, w + 9) + " " + in(b + 1, h + 9) + ";";
            default:
                StringBuilder s = new StringBuilder("again " + in(0, r.nextInt(5) == 0 ? 99 : 4) + (r.nextBoolean() ? " -" : " ") + in(0, 30) + " " + (r.nextBoolean() ? "- " : "") + in(0, 30) + " (");
                for (int i = r.nextInt(4); i > 0; i--) s.append(statement(depth + 1));
                return s + ")";
        }
    }
    private String points() {
        StringBuilder s = new StringBuilder();
        for (int i = in(1, 5); i > 0; i--) s.append(" " + in(0, 12) + "\n" + in(0, 12));
        return s + ";";
    }
    private String name() { return new String[] {"a", "b", "abcdef", "ab", "lines", "f"}[r.nextInt(6)]; }

    private String text() {
        StringBuilder s = new StringBuilder();
        if (r.nextInt(3) > 0) s.append("form a 0 0 2 4 4 0;form b 1 1 9 9 1 9 1 1;");
        for (int i = in(0, 6); i > 0; i--) s.append(statement(0));
        if (r.nextInt(4) == 0 && s.length() > 0) {
            int at = r.nextInt(s.length());
            switch (r.nextInt(4)) {
                case 0: s.deleteCharAt(at); break;
                case 1: s.insert(at, "9(); -ax,A\t\n".charAt(r.nextInt(12))); break;
                case 2: s.setCharAt(at, "9(); -ax,A\t\n".charAt(r.nextInt(12))); break;
                default: s.setLength(at);
            }
        }
        if (s.length() > 480) s.setLength(480);
        return s.toString();
    }

    private void feedText() {
        String t = text();
        StringBuilder s = new StringBuilder(t);
        while (s.length() % 20 != 0) s.append(' ');
        for (int i = 0; i < s.length(); i += 20) {
            int[] n = new int[5];
            for (int j = 0; j < 20; j++) n[j / 4] = n[j / 4] << 8 | s.charAt(i + j);
            same("feed", x.feed(n[0], n[1], n[2], n[3], n[4]), o.feed(n));
        }
        log.append("\n   text: ").append(t.replace('\n', '_'));
        int n = r.nextInt(10) == 0 ? near(0, o.tape.length()) : Math.min(o.tape.length(), t.length());
        same("draw " + n, x.draw(n), o.draw(n));
        for (int w = -1; w < 4; w++) same("fault " + w, x.fault(w), o.fault(w, true));
        for (int m = -1; m <= o.moves.size(); m++) for (int w = -1; w < 7; w++) looks(m, w);
    }

    private void looks(int m, int w) {
        long got, want;
        try { got = x.look(m, w); } catch (IndexOutOfBoundsException e) { got = 1L << 40; } catch (NoSuchElementException e) { got = 1L << 41; }
        try { want = o.look(m, w); } catch (IndexOutOfBoundsException e) { want = 1L << 40; } catch (NoSuchElementException e) { want = 1L << 41; }
        same("look " + m + " " + w, got, want);
    }

    private void one() {
        int m = near(0, Math.max(0, o.moves.size() - 1)), w2 = near(0, 1);
        int a, b, c, d;
        switch (r.nextInt(26)) {
            case 0: a = near(20, r.nextBoolean() ? 40 : 200); b = near(20, r.nextBoolean() ? 40 : 200); c = near(2, r.nextBoolean() ? 4 : 20);
                if (r.nextInt(4) == 0) { log.append("\n   wall " + a + " " + b + " " + c); same("wall", x.wall(a, b, c), o.wall(a, b, c)); } break;
            case 1: a = near(0, 2); b = a == 2 ? near(1, r.nextBoolean() ? 60 : 9999) : near(a == 1 ? 1 : 0, 99);
                if (r.nextInt(3) == 0) { log.append("\n   set " + a + " " + b); same("set", x.set(a, b), o.set(a, b)); } break;
            case 2: case 3: if (r.nextInt(2) == 0) feedText(); break;
            case 4: a = near(0, 100 * o.W); b = near(0, 100 * o.H); same("steps " + a + " " + b, x.steps(a, b, w2), o.steps(a, b, w2)); same("grain", x.grain(a, b), o.grain(a, b)); break;
            case 5: a = near(0, 9999); b = near(0, 9999); same("place " + a + " " + b, x.place(a, b, w2), o.place(a, b, w2)); break;
            case 6: a = near(0, o.W); b = near(1, o.H); c = near(0, 2); same("pull " + a + " " + b + " " + c, x.pull(a, b, c), o.pull(a, b, c)); break;
            case 7: if (r.nextInt(3) == 0) same("reach", x.reach(), o.reach()); break;
            case 8: same("sag " + m, x.sag(m), o.sag(m)); break;
            case 9: a = near(0, r.nextBoolean() ? 30 : 200); same("parts " + m + " " + a, x.parts(m, a), o.parts(m, a)); break;
            case 10: a = near(0, 80); if (r.nextInt(2) == 0) same("skips " + a, x.skips(a), o.skips(a)); break;
            case 11: same("ticks " + w2, x.ticks(w2), o.ticks(w2)); break;
            case 12: case 13: a = near(-9, 9); log.append("\n   miss " + m + " " + w2 + " " + a); same("miss", x.miss(m, w2, a), o.miss(m, w2, a)); break;
            case 14: same("real " + m + " " + w2, x.real(m, w2), o.real(m, w2)); break;
            case 15: case 16: case 17:
                c = o.crosses.isEmpty() ? in(-1, 1) : o.crosses.get(o.crosses.size() - 1).move() + in(0, 2);
                a = o.no(c) ? 7 : o.real(c, 0) + in(-9, 9); b = o.no(c) ? 7 : o.real(c, 1) + in(-9, 9);
                if (r.nextInt(15) == 0) a = r.nextInt();
                log.append("\n   seen " + c + " " + a + " " + b); same("seen", x.seen(c, a, b), o.seen(c, a, b)); break;
            case 18: if (r.nextInt(6) == 0) same("forget", x.forget(), o.forget()); break;
            case 19: case 20: a = near(0, r.nextBoolean() ? 20 : r.nextBoolean() ? 99 : 999);
                if (r.nextInt(3) == 0) for (int k = -1; k < 2 * o.crosses.size() + 2; k++) same("found " + a + " " + k, x.found(a, k), o.found(a, k));
                else same("mended " + m + " " + a + " " + w2, x.mended(m, a, w2), o.mended(m, a, w2)); break;
            case 21: if (r.nextInt(3) == 0) { log.append("\n   other"); same("other", x.other(), o.other()); } break;
            case 22: a = near(1, o.W); b = near(0, r.nextBoolean() ? 8 : 50); c = near(0, o.moves.size()); d = near(0, o.others.size());
                same("clear " + a + " " + b + " " + c + " " + d, x.clear(a, b, c, d), o.clear(a, b, c, d));
                same("together " + a + " " + b, x.together(a, b), o.together(a, b)); break;
            case 23: a = near(1, o.W); b = near(0, 2 * o.W); c = near(0, 3); if (!o.moves.isEmpty() && r.nextBoolean()) b = o.moves.get(r.nextInt(o.moves.size())).x();
                same("joint " + a + " " + b + " " + c, x.joint(a, b, c), o.joint(a, b, c)); break;
            case 24: a = near(0, r.nextBoolean() ? 5 : 99); b = near(0, 2); c = r.nextInt(8) == 0 ? r.nextInt() : in(-25, 25);
                same("mark", x.mark(3, -2, 3 + c, in(0, 0)), o.mark(3, -2, 3 + c, 0)); same("offset " + a + " " + b, x.offset(a, b), o.offset(a, b)); break;
            default: if (r.nextInt(3) == 0) { x.begin(); o.begin(); }
                a = r.nextBoolean() ? near(0, 50) : near(0, r.nextBoolean() ? 1000 : 100000); same("tick " + a, x.tick(a), o.tick(a));
                for (int k = -1; k < 6; k++) same("run " + k, x.run(k), o.run(k)); break;
        }
    }

    public static void main(String[] args) {
        int runs = args.length > 0 ? Integer.parseInt(args[0]) : 300;
        int from = args.length > 1 ? Integer.parseInt(args[1]) : 0;
        for (int seed = from; seed < from + runs; seed++) {
            CompareTest t = new CompareTest(seed);
            if (seed % 3 > 0) { int w = t.in(20, 60), h = t.in(20, 60), k = t.in(2, 6); t.log.append("\n   wall " + w + " " + h + " " + k); t.same("wall", t.x.wall(w, h, k), t.o.wall(w, h, k)); }
            for (int i = 0; i < 120; i++) t.one();
            for (int w = -1; w < 11; w++) t.same("count " + w, t.x.count(w), t.o.count(w));
        }
        System.out.println("CompareTest: " + calls + " answers compared, " + wrong + " wrong");
        if (wrong > 0) System.exit(1);
    }
}
