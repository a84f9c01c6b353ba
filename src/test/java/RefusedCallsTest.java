import java.util.ArrayList;
import java.util.List;
import java.util.function.ToLongFunction;

/**
 * Each call that is refused answers so and leaves all as it was; so does each call that only asks. Every one goes to an
 * object of its own, with all that an object can hold, and what that object tells then is compared.
 */
public final class RefusedCallsTest extends Checks {
    private record Call(String name, ToLongFunction<CordPens> made, long due) { }

    private static final List<Call> CALLS = new ArrayList<>();

    private static void refused(String name, ToLongFunction<CordPens> made, long due) { CALLS.add(new Call(name, made, due)); }

    private static long asNumber(boolean b) { return b ? 1 : 0; }

    /** MOVES of both machines, a TAPE, a FAULT, MISSED steps, CROSSES, PENS and a RUN. */
    private static CordPens laden() {
        CordPens x = sixty("line 0 80 60 80;");
        x.set(0, 3); x.set(1, 50); x.set(2, 40);
        x.other();
        draw(x, "line 30 40 30 16;line 30 16 30 40;");
        draw(x, "to 1000 1;");
        x.miss(0, 0, 2); x.miss(1, 1, -1);
        x.seen(0, x.real(0, 0), x.real(0, 1)); x.seen(1, x.real(1, 0) + 3, x.real(1, 1));
        x.mark(0, 0, 3, 4); x.mark(5, 5, 9, 9);
        x.begin(); x.tick(120);
        load(x, "to 7 7;to 8 8;");
        return x;
    }

    /** All that the object tells; its TAPE last, for it takes a DRAWING to see it. */
    private static String told(CordPens x) {
        StringBuilder s = new StringBuilder();
        for (int what = 0; what < 10; what++) s.append(x.count(what)).append(' ');
        for (int what = 0; what < 3; what++) s.append(x.fault(what)).append(' ');
        for (int m = 0; m < 4; m++) for (int what = 0; what < 6; what++) s.append(look(x, m, what)).append(' ');
        for (int m = 0; m < 3; m++) s.append(x.real(m, 0)).append(' ').append(x.real(m, 1)).append(' ').append(x.mended(m, 9, 0)).append(' ').append(x.sag(m)).append(' ');
        for (int what = 0; what < 5; what++) s.append(x.found(9, what)).append(' ').append(x.run(what)).append(' ');
        s.append(x.tick(0)).append(' ').append(x.ticks(0)).append(' ').append(x.reach()).append(' ').append(x.together(60, 20)).append(' ');
        for (int what = 0; what < 4; what++) s.append(x.joint(60, 120, what)).append(' ');
        for (int what = 0; what < 3; what++) s.append(x.offset(2, what)).append(' ');
        for (int k = 0; k < 3; k++) s.append(x.clear(60, 40, 1, k)).append(' ');
        s.append(x.feed(0x746F2039, 0x2031313B, 0x20202020, 0x20202020, 0x20202020)).append(' ').append(x.draw(28)).append(' ').append(moves(x));
        return s.toString();
    }

    private static void listWallCalls() {
        for (int w : new int[] {19, 201, MIN, MAX}) refused("wall(" + w + ", 100, 4)", x -> asNumber(x.wall(w, 100, 4)), 0);
        for (int h : new int[] {19, 201, MIN, MAX}) refused("wall(100, " + h + ", 4)", x -> asNumber(x.wall(100, h, 4)), 0);
        for (int k : new int[] {1, 21, MIN, MAX}) refused("wall(100, 100, " + k + ")", x -> asNumber(x.wall(100, 100, k)), 0);
        for (int[] s : new int[][] {{0, -1}, {0, 100}, {1, 0}, {1, 100}, {2, 0}, {2, 10000}, {3, 1}, {-1, 1}}) {
            refused("set(" + s[0] + ", " + s[1] + ")", x -> asNumber(x.set(s[0], s[1])), 0);
        }
        for (int n : new int[] {21, -1, MIN, MAX}) refused("draw(" + n + ")", x -> x.draw(n), -2);
        for (int what : new int[] {-1, 3}) refused("fault(" + what + ")", x -> x.fault(what), -1);
        for (int[] l : new int[][] {{-1, 0}, {3, 0}, {3, 6}}) refused("look(" + l[0] + ", " + l[1] + ")", x -> look(x, l[0], l[1]), NO_MOVE);
        for (int what : new int[] {-1, 6}) refused("look(0, " + what + ")", x -> look(x, 0, what), NO_WHAT);
        for (int[] s : new int[][] {{-1, 0, 0}, {6001, 0, 0}, {0, -1, 0}, {0, 10001, 0}, {0, 0, -1}, {0, 0, 2}}) {
            refused("steps(" + s[0] + ", " + s[1] + ", " + s[2] + ")", x -> x.steps(s[0], s[1], s[2]), -1);
        }
        for (int[] p : new int[][] {{-1, 0, 0}, {10000, 0, 0}, {0, -1, 0}, {0, 10000, 0}, {0, 0, -1}, {0, 0, 2}}) {
            refused("place(" + p[0] + ", " + p[1] + ", " + p[2] + ")", x -> x.place(p[0], p[1], p[2]), MIN);
        }
        for (int[] g : new int[][] {{-1, 0}, {6001, 0}, {0, -1}, {0, 10001}}) refused("grain(" + g[0] + ", " + g[1] + ")", x -> x.grain(g[0], g[1]), -1);
        for (int[] p : new int[][] {{-1, 1, 0}, {61, 1, 0}, {0, 0, 0}, {0, 101, 0}, {0, 1, -1}, {0, 1, 3}}) {
            refused("pull(" + p[0] + ", " + p[1] + ", " + p[2] + ")", x -> x.pull(p[0], p[1], p[2]), -1);
        }
        for (int what : new int[] {-1, 10}) refused("count(" + what + ")", x -> x.count(what), -1);
    }

    private static void listMoveCalls() {
        for (int m : new int[] {-1, 3}) {
            refused("sag(" + m + ")", x -> x.sag(m), -1);
            refused("parts(" + m + ", 5)", x -> x.parts(m, 5), -1);
            refused("miss(" + m + ", 0, 1)", x -> asNumber(x.miss(m, 0, 1)), 0);
            refused("real(" + m + ", 0)", x -> x.real(m, 0), MIN);
            refused("seen(" + m + ", 1, 1)", x -> x.seen(m, 1, 1), -1);
            refused("mended(" + m + ", 9, 0)", x -> x.mended(m, 9, 0), MIN);
        }
        refused("parts(0, -1)", x -> x.parts(0, -1), -1);
        refused("skips(-1)", x -> x.skips(-1), -1);
        for (int what : new int[] {-1, 2}) refused("ticks(" + what + ")", x -> x.ticks(what), -1);
        for (int[] c : new int[][] {{-1, 1}, {2, 1}, {0, -10}, {0, 10}, {1, -10}, {1, 10}}) {
            refused("miss(1, " + c[0] + ", " + c[1] + ")", x -> asNumber(x.miss(1, c[0], c[1])), 0);
        }
        for (int what : new int[] {-1, 2}) refused("real(0, " + what + ")", x -> x.real(0, what), MIN);
        for (int m : new int[] {0, 1}) refused("seen(" + m + ", 1, 1)", x -> x.seen(m, 1, 1), -1);
        for (int d : new int[] {-1, 1000}) {
            refused("found(" + d + ", 0)", x -> x.found(d, 0), -1);
            refused("mended(0, " + d + ", 0)", x -> x.mended(0, d, 0), MIN);
        }
        for (int what : new int[] {-1, 5}) refused("found(9, " + what + ")", x -> x.found(9, what), MIN);
        for (int what : new int[] {-1, 2}) refused("mended(0, 9, " + what + ")", x -> x.mended(0, 9, what), MIN);
        refused("found(0, 0)", x -> x.found(0, 0), -2);
        refused("mended(0, 0, 0)", x -> x.mended(0, 0, 0), MIN);
        for (int n : new int[] {-1, 100001}) refused("tick(" + n + ")", x -> x.tick(n), -1);
        for (int what : new int[] {-1, 5}) refused("run(" + what + ")", x -> x.run(what), MIN);
    }

    private static void listPairCalls() {
        for (int[] c : new int[][] {{0, 0, 0, 0}, {61, 0, 0, 0}, {1, -1, 0, 0}, {1, 51, 0, 0}, {1, 0, -1, 0}, {1, 0, 4, 0}, {1, 0, 0, -1}, {1, 0, 0, 3}}) {
            refused("clear(" + c[0] + ", " + c[1] + ", " + c[2] + ", " + c[3] + ")", x -> x.clear(c[0], c[1], c[2], c[3]), -1);
        }
        for (int[] t : new int[][] {{0, 0}, {61, 0}, {1, -1}, {1, 51}}) refused("together(" + t[0] + ", " + t[1] + ")", x -> x.together(t[0], t[1]), -1);
        refused("together(1, 50)", x -> x.together(1, 50), -2);
        for (int[] j : new int[][] {{0, 1, 0}, {61, 1, 0}, {1, 1, -1}, {1, 1, 4}}) {
            refused("joint(" + j[0] + ", " + j[1] + ", " + j[2] + ")", x -> x.joint(j[0], j[1], j[2]), -1);
        }
        for (int[] o : new int[][] {{-1, 0}, {100, 0}, {0, -1}, {0, 3}}) refused("offset(" + o[0] + ", " + o[1] + ")", x -> x.offset(o[0], o[1]), MIN);
    }

    @Says("NONE, and none come; false: no such numbers; NONE, and nothing happens")
    private static void everyRefusedCall() {
        listWallCalls();
        listMoveCalls();
        listPairCalls();
        String untouched = told(laden());
        for (Call c : CALLS) {
            CordPens x = laden();
            due(c.name, c.made.applyAsLong(x), c.due);
            same("what stands behind " + c.name, told(x), untouched);
        }
    }

    @Says("how many it has; NONE, and none come, if it would have more than 500")
    private static void feedBeyond500() {
        CordPens full = laden(), other = laden();
        for (int i = 0; i < 24; i++) { full.feed(0, 0, 0, 0, 0); other.feed(0, 0, 0, 0, 0); }
        due("feed", full.feed(0x746F2039, 0x2031313B, 0x20202020, 0x20202020, 0x20202020), -1);
        same("what stands behind it", told(full), told(other));
    }

    @Says("NONE: there are 20.")
    private static void markBeyond20() {
        CordPens full = laden(), other = laden();
        for (int i = 2; i < 20; i++) { full.mark(i, i, 0, 0); other.mark(i, i, 0, 0); }
        due("mark", full.mark(0, 0, 3, 4), -1);
        same("what stands behind it", told(full), told(other));
    }

    @Says("Integer.MIN_VALUE: no RUN")
    private static void withoutARun() {
        for (int n : new int[] {0, 1, 100000, -1}) {
            CordPens x = laden(), other = laden();
            x.set(0, 3); other.set(0, 3);
            row("tick(" + n + "), run", "-1 " + MIN, x.tick(n), x.run(0));
            same("what stands behind it", told(x), told(other));
        }
    }

    /** Calls that only ask have rows of their own, or use one another's: none of them may change what stands. */
    @Says("Nothing is promised beyond the answers and state changes described above")
    private static void callsThatOnlyAsk() {
        String untouched = told(laden());
        List<Call> asks = new ArrayList<>();
        asks.add(new Call("fault", x -> x.fault(0), 0));
        asks.add(new Call("look", x -> look(x, 2, 5), 0));
        asks.add(new Call("steps", x -> x.steps(100, 100, 0), 0));
        asks.add(new Call("place", x -> x.place(100, 120, 1), 0));
        asks.add(new Call("grain", x -> x.grain(100, 100), 0));
        asks.add(new Call("pull", x -> x.pull(10, 10, 2), 0));
        asks.add(new Call("reach", CordPens::reach, 0));
        asks.add(new Call("sag", x -> x.sag(1), 0));
        asks.add(new Call("parts", x -> x.parts(2, 3), 0));
        asks.add(new Call("skips", x -> x.skips(3), 0));
        asks.add(new Call("ticks", x -> x.ticks(1), 0));
        asks.add(new Call("real", x -> x.real(2, 1), 0));
        asks.add(new Call("found", x -> x.found(99, 3), 0));
        asks.add(new Call("mended", x -> x.mended(2, 99, 1), 0));
        asks.add(new Call("clear", x -> x.clear(30, 3, 2, 2), 0));
        asks.add(new Call("together", x -> x.together(30, 3), 0));
        asks.add(new Call("joint", x -> x.joint(30, 30, 3), 0));
        asks.add(new Call("offset", x -> x.offset(9, 0), 0));
        asks.add(new Call("run", x -> x.run(3), 0));
        asks.add(new Call("tick of 0", x -> x.tick(0), 0));
        asks.add(new Call("count", x -> x.count(3), 0));
        for (Call c : asks) {
            CordPens x = laden();
            long once = c.made.applyAsLong(x), twice = c.made.applyAsLong(x);
            due(c.name + " twice", twice, once);
            same("what stands behind " + c.name, told(x), untouched);
        }
    }

    public static void main(String[] args) { runAll(RefusedCallsTest.class); }
}
