import java.math.BigInteger;
import java.util.ArrayList;
import java.util.HashMap;
import java.util.List;
import java.util.Map;
import java.util.NoSuchElementException;

/** The document once more, in the slowest and plainest way that comes to mind, for comparing. */
final class Oracle {
    static final int MIN = Integer.MIN_VALUE;

    record Move(int x0, int y0, int x, int y, boolean down) { }
    record Cross(int move, int x, int y) { }
    record Token(String text, int place) { }
    static final class Fault extends RuntimeException {
        final int kind, place;
        Fault(int kind, int place) { this.kind = kind; this.place = place; }
    }
    static final class Full extends RuntimeException { }

    int W = 100, H = 100, K = 4, E = 0, G = 1, LIMIT = 9999;
    StringBuilder tape = new StringBuilder();
    List<Move> moves = new ArrayList<>();
    List<Move> others = new ArrayList<>();
    Map<List<Integer>, Integer> missed = new HashMap<>();
    List<Cross> crosses = new ArrayList<>();
    List<long[]> pens = new ArrayList<>();
    int faultKind = 0, faultPlace = -1, full = 0;
    int runTicks = -1;

    static long root(long n) {
        return BigInteger.valueOf(n).sqrt().longValueExact();
    }

    long hung(long n) { return n + n * E / 10000; }

    int cordSteps(long across, long y) {
        long length = root(K * K * (across * across + y * y)) / 100;
        int n = (int) Math.max(0, length * 98 / 100 - 3);
        while (hung(n + 1) <= length) n++;
        return n;
    }

    int[] stepsOf(long x, long y) { return new int[] {cordSteps(x, y), cordSteps(100L * W - x, y)}; }

    long[] placeOf(long l, long r) {
        long a = hung(l), b = hung(r);
        long x = 100 * (a * a - b * b + (long) K * K * W * W) / (2L * K * K * W);
        long inner = 10000 * a * a / ((long) K * K) - x * x;
        return new long[] {x, inner < 0 ? 0 : root(inner)};
    }

    // ---- the text

    List<Token> tokens(String text) {
        List<Token> list = new ArrayList<>();
        int i = 0;
        while (i < text.length()) {
            int from = i;
            char c = text.charAt(i);
            if (c == ' ' || c == '\n') { i++; continue; }
            if (c >= 'a' && c <= 'z') { while (i < text.length() && text.charAt(i) >= 'a' && text.charAt(i) <= 'z') i++; }
            else if (c >= '0' && c <= '9') { while (i < text.length() && text.charAt(i) >= '0' && text.charAt(i) <= '9') i++; }
            else i++;
            list.add(new Token(text.substring(from, i), from));
        }
        list.add(new Token("", text.length()));
        return list;
    }

    static final List<String> WORDS = List.of("form", "put", "line", "to", "hatch", "clip", "again");

    /** A statement: its word, its numbers, the form's name, the body. */
    static final class S { String word; List<Integer> n = new ArrayList<>(); String name; List<S> body; }

    List<Token> ts; int at; int told; int openNow;
    Map<String, List<Integer>> forms;

    Token now() { return ts.get(at); }
    Fault fault(int kind) { return new Fault(kind, now().place); }

    static boolean isNumber(Token t) { return !t.text.isEmpty() && Character.isDigit(t.text.charAt(0)) && t.text.charAt(0) < 128; }

    int number(int low, int high) {
        if (!isNumber(now())) throw fault(1);
        BigInteger v = new BigInteger(now().text);
        if (v.compareTo(BigInteger.valueOf(low)) < 0 || v.compareTo(BigInteger.valueOf(high)) > 0) throw fault(2);
        at++;
        return v.intValueExact();
    }

    void sign(String c) { if (!now().text.equals(c)) throw fault(1); at++; }

    int signed() {
        if (now().text.equals("-")) { at++; return -number(0, 999); }
        return number(0, 999);
    }

    String name() {
        String t = now().text;
        if (!t.matches("[a-z]{1,6}") || WORDS.contains(t)) throw fault(1);
        return t;
    }

    List<S> statements(boolean inside) {
        List<S> list = new ArrayList<>();
        while (true) {
            String t = now().text;
            if (t.isEmpty() && !inside) return list;
            if (t.equals(")") && inside) return list;
            if (!WORDS.contains(t)) throw fault(1);
            if (told == 60) throw fault(2);
            told++;
            list.add(statement(t));
        }
    }

    S statement(String word) {
        S s = new S();
        s.word = word;
        if (word.equals("form") && forms.size() == 8) throw fault(2);
        at++;
        switch (word) {
            case "form" -> {
                s.name = name();
                if (forms.containsKey(s.name)) throw fault(3);
                at++;
                List<Integer> p = new ArrayList<>();
                do {
                    if (p.size() == 24) throw fault(2);
                    p.add(number(0, 99));
                    p.add(number(0, 99));
                } while (isNumber(now()));
                forms.put(s.name, p);
            }
            case "put" -> {
                s.name = name();
                if (!forms.containsKey(s.name)) throw fault(4);
                at++;
                s.n.add(number(0, 999)); s.n.add(number(0, 999)); s.n.add(number(0, 99));
            }
            case "line" -> { for (int i = 0; i < 4; i++) s.n.add(number(0, 999)); }
            case "to" -> { for (int i = 0; i < 2; i++) s.n.add(number(0, 999)); }
            case "hatch" -> { for (int i = 0; i < 4; i++) s.n.add(number(0, 999)); s.n.add(number(1, 99)); }
            case "clip" -> {
                for (int i = 0; i < 4; i++) {
                    Fault here = fault(5);
                    int v = number(0, 999);
                    if (i >= 2 && v <= s.n.get(i - 2)) throw here;
                    s.n.add(v);
                }
            }
            default -> {
                s.n.add(number(0, 99)); s.n.add(signed()); s.n.add(signed());
                if (now().text.equals("(") && openNow == 5) throw fault(2);
                sign("(");
                openNow++;
                s.body = statements(true);
                openNow--;
                sign(")");
                return s;
            }
        }
        sign(";");
        return s;
    }

    // ---- doing it

    int[] shift; int[] window; int[] pen; int doneS; List<Move> made;

    void perform(List<S> list) {
        for (S s : list) {
            doneS++;
            if (doneS == 3001) throw new Full();
            List<Integer> n = s.n;
            switch (s.word) {
                case "again" -> {
                    int[] oldShift = shift.clone(), oldWindow = window.clone();
                    for (int i = 0; i < n.get(0); i++) {
                        perform(s.body);
                        shift[0] += n.get(1);
                        shift[1] += n.get(2);
                    }
                    shift = oldShift;
                    window = oldWindow;
                }
                case "put" -> {
                    List<Integer> p = forms.get(s.name);
                    for (int i = 2; i < p.size(); i += 2) {
                        line(n.get(0) + n.get(2) * p.get(i - 2), n.get(1) + n.get(2) * p.get(i - 1),
                            n.get(0) + n.get(2) * p.get(i), n.get(1) + n.get(2) * p.get(i + 1));
                    }
                }
                case "line" -> line(n.get(0), n.get(1), n.get(2), n.get(3));
                case "hatch" -> {
                    int turn = 0;
                    for (int y = n.get(1); y <= n.get(3); y += n.get(4), turn++) {
                        if (turn % 2 == 0) line(n.get(0), y, n.get(2), y); else line(n.get(2), y, n.get(0), y);
                    }
                }
                case "to" -> {
                    int x = n.get(0) + shift[0], y = n.get(1) + shift[1];
                    if (x >= window[0] && x <= window[2] && y >= window[1] && y <= window[3]) goThere(x, y, false);
                }
                case "clip" -> window = new int[] {
                    Math.max(0, n.get(0)), Math.max(1, n.get(1)), Math.min(W, n.get(2)), Math.min(H, n.get(3))};
                default -> { }
            }
        }
    }

    void goThere(int x, int y, boolean down) {
        if (pen[0] == x && pen[1] == y) return;
        if (made.size() == 150) throw new Full();
        made.add(new Move(pen[0], pen[1], x, y, down));
        pen = new int[] {x, y};
    }

    void line(int x1, int y1, int x2, int y2) {
        long ax = x1 + shift[0], ay = y1 + shift[1], bx = x2 + shift[0], by = y2 + shift[1];
        long L = window[0], T = window[1], R = window[2], B = window[3];
        if (ax < L && bx < L) return;
        if (ax < L) { ay = ay + (by - ay) * (L - ax) / (bx - ax); ax = L; }
        else if (bx < L) { by = by + (ay - by) * (L - bx) / (ax - bx); bx = L; }
        if (ax > R && bx > R) return;
        if (ax > R) { ay = ay + (by - ay) * (R - ax) / (bx - ax); ax = R; }
        else if (bx > R) { by = by + (ay - by) * (R - bx) / (ax - bx); bx = R; }
        if (ay < T && by < T) return;
        if (ay < T) { ax = ax + (bx - ax) * (T - ay) / (by - ay); ay = T; }
        else if (by < T) { bx = bx + (ax - bx) * (T - by) / (ay - by); by = T; }
        if (ay > B && by > B) return;
        if (ay > B) { ax = ax + (bx - ax) * (B - ay) / (by - ay); ay = B; }
        else if (by > B) { bx = bx + (ax - bx) * (B - by) / (ay - by); by = B; }
        goThere((int) ax, (int) ay, false);
        goThere((int) bx, (int) by, true);
    }

    // ---- the face

    int feed(int... five) {
        if (tape.length() + 20 > 500) return -1;
        for (int n : five) for (int s = 24; s >= 0; s -= 8) tape.append((char) ((n >>> s) & 255));
        return tape.length();
    }

    void noRest() { missed.clear(); crosses.clear(); runTicks = -1; }

    boolean wall(int w, int h, int k) {
        if (w < 20 || w > 200 || h < 20 || h > 200 || k < 2 || k > 20) return false;
        W = w; H = h; K = k;
        moves = new ArrayList<>(); others = new ArrayList<>();
        noRest();
        return true;
    }

    boolean set(int what, int n) {
        if (what == 0 && n >= 0 && n <= 99) { E = n; noRest(); return true; }
        if (what == 1 && n >= 1 && n <= 99) { G = n; return true; }
        if (what == 2 && n >= 1 && n <= 9999) { LIMIT = n; return true; }
        return false;
    }

    int draw(int n) {
        if (n < 0 || n > tape.length()) return -2;
        String text = tape.substring(0, n);
        tape.setLength(0);
        faultKind = 0; faultPlace = -1; full = 0;
        ts = tokens(text); at = 0; told = 0; openNow = 0; forms = new HashMap<>();
        List<S> all;
        try { all = statements(false); }
        catch (Fault f) { faultKind = f.kind; faultPlace = f.place; return -1; }
        noRest();
        shift = new int[2]; window = new int[] {0, 1, W, H}; pen = new int[] {W / 2, H}; doneS = 0; made = new ArrayList<>();
        try { perform(all); } catch (Full f) { full = 1; }
        moves = made;
        return moves.size();
    }

    int fault(int what, boolean face) { return what == 0 ? faultKind : what == 1 ? faultPlace : what == 2 ? full : -1; }

    boolean no(int move) { return move < 0 || move >= moves.size(); }
    int[] from(Move m) { return stepsOf(100L * m.x0, 100L * m.y0); }
    int[] to(Move m) { return stepsOf(100L * m.x, 100L * m.y); }
    static int ticksBetween(int[] a, int[] b) { return Math.max(Math.abs(a[0] - b[0]), Math.abs(a[1] - b[1])); }
    int ticksOf(Move m) { return ticksBetween(from(m), to(m)); }

    int look(int move, int what) {
        if (no(move)) throw new IndexOutOfBoundsException();
        if (what < 0 || what > 5) throw new NoSuchElementException();
        Move m = moves.get(move);
        return new int[] {m.x, m.y, m.down ? 1 : 0, ticksOf(m), to(m)[0], to(m)[1]}[what];
    }

    boolean onWall(int x, int y) { return x >= 0 && x <= 100 * W && y >= 0 && y <= 100 * H; }
    int steps(int x, int y, int what) { return !onWall(x, y) || what < 0 || what > 1 ? -1 : stepsOf(x, y)[what]; }

    int place(int l, int r, int what) {
        return l < 0 || l > 9999 || r < 0 || r > 9999 || what < 0 || what > 1 ? MIN : (int) placeOf(l, r)[what];
    }

    int grain(int x, int y) {
        if (!onWall(x, y)) return -1;
        int[] s = stepsOf(x, y);
        long[] p = placeOf(s[0], s[1]);
        long most = 0;
        for (int[] way : new int[][] {{1, 0}, {-1, 0}, {0, 1}, {0, -1}}) {
            long[] q = placeOf(s[0] + way[0], s[1] + way[1]);
            most = Math.max(most, Math.abs(p[0] - q[0]) + Math.abs(p[1] - q[1]));
        }
        return (int) most;
    }

    int pull(int x, int y, int what) {
        if (x < 0 || x > W || y < 1 || y > H || what < 0 || what > 2) return -1;
        int[] s = stepsOf(100L * x, 100L * y);
        long l = (long) G * s[0] * (W - x) / ((long) K * W * y), r = (long) G * s[1] * x / ((long) K * W * y);
        return (int) (what == 0 ? l : what == 1 ? r : l <= LIMIT && r <= LIMIT ? 1 : 0);
    }

    int reach() {
        int sum = 0;
        for (int x = 0; x <= W; x++) for (int y = 1; y <= H; y++) sum += pull(x, y, 2);
        return sum;
    }

    long[] placeAt(int[] a, int[] b, int i) {
        int n = ticksBetween(a, b);
        if (n == 0) return placeOf(a[0], a[1]);
        return placeOf(a[0] + i * (b[0] - a[0]) / n, a[1] + i * (b[1] - a[1]) / n);
    }

    static long distance(long[] p, long x0, long y0, long x1, long y1) {
        long dx = x1 - x0, dy = y1 - y0;
        long by = root(dx * dx + dy * dy);
        return Math.abs(dx * (p[1] - y0) - dy * (p[0] - x0)) / (by == 0 ? 1 : by);
    }

    int sag(int move) {
        if (no(move)) return -1;
        int[] a = from(moves.get(move)), b = to(moves.get(move));
        int n = ticksBetween(a, b);
        long[] p = placeAt(a, b, 0), q = placeAt(a, b, n);
        long most = 0;
        for (int i = 0; i <= n; i++) most = Math.max(most, distance(placeAt(a, b, i), p[0], p[1], q[0], q[1]));
        return (int) most;
    }

    long trueIn(Move m, int p) {
        long most = 0;
        int[] a = from(m);
        for (int i = 1; i <= p; i++) {
            int[] b = stepsOf(100L * m.x0 + i * 100L * (m.x - m.x0) / p, 100L * m.y0 + i * 100L * (m.y - m.y0) / p);
            for (int t = 0; t <= ticksBetween(a, b); t++) {
                most = Math.max(most, distance(placeAt(a, b, t), 100L * m.x0, 100L * m.y0, 100L * m.x, 100L * m.y));
            }
            a = b;
        }
        return most;
    }

    int parts(int move, int e) {
        if (no(move) || e < 0) return -1;
        for (int p = 1; p <= 64; p++) if (trueIn(moves.get(move), p) <= e) return p;
        return -1;
    }

    int skips(int v) {
        if (v < 0) return -1;
        int sum = 0;
        for (Move m : moves) {
            if (!m.down) continue;
            int[] a = from(m), b = to(m);
            for (int i = 1; i <= ticksBetween(a, b); i++) {
                long[] p = placeAt(a, b, i - 1), q = placeAt(a, b, i);
                if (Math.abs(p[0] - q[0]) + Math.abs(p[1] - q[1]) > v) sum++;
            }
        }
        return sum;
    }

    int ticks(int what) {
        if (what < 0 || what > 1) return -1;
        return moves.stream().filter(m -> what == 0 || m.down).mapToInt(this::ticksOf).sum();
    }

    boolean miss(int move, int cord, int n) {
        if (no(move) || cord < 0 || cord > 1 || n < -9 || n > 9) return false;
        missed.put(List.of(move, cord), n);
        return true;
    }

    int missedBy(int move, int cord) {
        return missed.entrySet().stream().filter(e -> e.getKey().get(0) <= move && e.getKey().get(1) == cord)
            .mapToInt(Map.Entry::getValue).sum();
    }

    int real(int move, int what) {
        if (no(move) || what < 0 || what > 1) return MIN;
        int[] s = to(moves.get(move));
        return (int) placeOf(s[0] + missedBy(move, 0), s[1] + missedBy(move, 1))[what];
    }

    int seen(int move, int x, int y) {
        if (no(move) || crosses.size() == 12) return -1;
        if (!crosses.isEmpty() && crosses.get(crosses.size() - 1).move >= move) return -1;
        crosses.add(new Cross(move, x, y));
        return crosses.size();
    }

    int forget() { int n = crosses.size(); crosses.clear(); return n; }

    /** Forward over all ways, keeping of each l, r the least sum and of those the least way. */
    List<Integer> foundWay(int d) {
        Map<List<Integer>, List<Integer>> best = new HashMap<>();
        best.put(List.of(0, 0), List.of(0));
        for (Cross c : crosses) {
            Map<List<Integer>, List<Integer>> next = new HashMap<>();
            int[] s = to(moves.get(c.move));
            for (int l = -6; l <= 6; l++) for (int r = -6; r <= 6; r++) {
                long[] p = placeOf(s[0] + l, s[1] + r);
                if (Math.abs(p[0] - c.x) > d || Math.abs(p[1] - c.y) > d) continue;
                for (var e : best.entrySet()) {
                    List<Integer> way = new ArrayList<>(e.getValue());
                    way.set(0, way.get(0) + Math.abs(l - e.getKey().get(0)) + Math.abs(r - e.getKey().get(1)));
                    way.add(l);
                    way.add(r);
                    next.merge(List.of(l, r), way, (a, b) -> before(a, b) ? a : b);
                }
            }
            best = next;
        }
        return best.values().stream().reduce((a, b) -> before(a, b) ? a : b).orElse(null);
    }

    static boolean before(List<Integer> a, List<Integer> b) {
        for (int i = 0; i < a.size(); i++) if (!a.get(i).equals(b.get(i))) return a.get(i) < b.get(i);
        return true;
    }

    int found(int d, int what) {
        if (d < 0 || d > 999) return -1;
        if (what < 0 || what > 2 * crosses.size()) return MIN;
        List<Integer> way = foundWay(d);
        return way == null ? -2 : way.get(what);
    }

    int mended(int move, int d, int what) {
        if (no(move) || d < 0 || d > 999 || what < 0 || what > 1) return MIN;
        List<Integer> way = foundWay(d);
        if (way == null) return MIN;
        int l = 0, r = 0;
        for (int k = 0; k < crosses.size(); k++) {
            if (crosses.get(k).move < move) { l = way.get(2 * k + 1); r = way.get(2 * k + 2); }
        }
        int[] s = to(moves.get(move));
        return (int) placeOf(s[0] + missedBy(move, 0) - l, s[1] + missedBy(move, 1) - r)[what];
    }

    int other() { others = moves; return others.size(); }

    static int[] behind(List<Move> list, int n, int w, int h) {
        return n == 0 ? new int[] {w / 2, h} : new int[] {list.get(n - 1).x, list.get(n - 1).y};
    }

    /** Far from the cord's ends and from what lies between them, by fractions. */
    static boolean away(long px, long py, long ax, long bx, long by, long d) {
        long ux = bx - ax, uy = by, vx = px - ax, vy = py;
        long uu = ux * ux + uy * uy, t = ux * vx + uy * vy;
        if (t < 0) t = 0;
        if (t > uu) t = uu;
        long ex = uu * vx - t * ux, ey = uu * vy - t * uy;
        BigInteger left = BigInteger.valueOf(ex).pow(2).add(BigInteger.valueOf(ey).pow(2));
        return left.compareTo(BigInteger.valueOf(d * uu).pow(2)) >= 0;
    }

    boolean clearAt(int v, int d, int i, int k) {
        int[] p = behind(moves, i, W, H), q = behind(others, k, W, H);
        return away(p[0], p[1], v, q[0] + v, q[1], d) && away(q[0] + v, q[1], W, p[0], p[1], d);
    }

    int clear(int v, int d, int i, int k) {
        if (v < 1 || v > W || d < 0 || d > 50 || i < 0 || i > moves.size() || k < 0 || k > others.size()) return -1;
        return clearAt(v, d, i, k) ? 1 : 0;
    }

    int together(int v, int d) {
        if (v < 1 || v > W || d < 0 || d > 50) return -1;
        int n = moves.size(), m = others.size();
        int[] t = moves.stream().mapToInt(this::ticksOf).toArray(), u = others.stream().mapToInt(this::ticksOf).toArray();
        long[][] least = new long[n + 1][m + 1];
        for (int i = n; i >= 0; i--) for (int k = m; k >= 0; k--) {
            long b = i == n && k == m ? 0 : Long.MAX_VALUE / 2;
            if (i < n) b = Math.min(b, least[i + 1][k] + t[i]);
            if (k < m) b = Math.min(b, least[i][k + 1] + u[k]);
            if (i < n && k < m) b = Math.min(b, least[i + 1][k + 1] + Math.max(t[i], u[k]));
            least[i][k] = clearAt(v, d, i, k) ? b : Long.MAX_VALUE / 2;
        }
        return least[0][0] >= Long.MAX_VALUE / 2 ? -2 : (int) least[0][0];
    }

    static List<Integer> heights(List<Move> list, long x) {
        List<Integer> h = new ArrayList<>();
        for (Move m : list) {
            if (m.down && m.x0 == x) h.add(m.y0);
            if (m.down && m.x == x) h.add(m.y);
        }
        h.sort(null);
        return h;
    }

    int joint(int v, int x, int what) {
        if (v < 1 || v > W || what < 0 || what > 3) return -1;
        List<Integer> a = heights(moves, x), b = heights(others, (long) x - v);
        int pairs = Math.min(a.size(), b.size()), sum = 0, most = 0;
        for (int i = 0; i < pairs; i++) {
            sum += Math.abs(a.get(i) - b.get(i));
            most = Math.max(most, Math.abs(a.get(i) - b.get(i)));
        }
        return new int[] {pairs, sum, most, a.size() + b.size() - 2 * pairs}[what];
    }

    int mark(int x1, int y1, int x2, int y2) {
        if (pens.size() == 20) return -1;
        pens.add(new long[] {(long) x2 - x1, (long) y2 - y1});
        return pens.size();
    }

    int offset(int d, int what) {
        if (d < 0 || d > 99 || what < 0 || what > 2) return MIN;
        int[] best = null;
        for (int x = 20; x >= -20; x--) for (int y = 20; y >= -20; y--) {
            int many = 0;
            for (long[] p : pens) if (Math.abs(p[0] - x) <= d && Math.abs(p[1] - y) <= d) many++;
            if (best == null || many >= best[2]) best = new int[] {x, y, many};
        }
        return best[what];
    }

    void begin() { runTicks = 0; }

    int tick(int n) {
        if (runTicks < 0 || n < 0 || n > 100000) return -1;
        runTicks = Math.min(runTicks + n, ticks(0));
        return runTicks;
    }

    int run(int what) {
        if (runTicks < 0 || what < 0 || what > 4) return MIN;
        int m = 0, left = runTicks;
        while (m < moves.size() && left >= ticksOf(moves.get(m))) left -= ticksOf(moves.get(m++));
        if (what == 0) return m;
        if (what == 1) return left;
        if (what == 4) return m == moves.size() ? 1 : 0;
        int[] a, b;
        if (m < moves.size()) { a = from(moves.get(m)); b = to(moves.get(m)); }
        else { int[] p = behind(moves, m, W, H); a = stepsOf(100L * p[0], 100L * p[1]); b = a; }
        int n = Math.max(1, ticksBetween(a, b));
        long l = a[0] + left * (b[0] - a[0]) / n + missedBy(m, 0), r = a[1] + left * (b[1] - a[1]) / n + missedBy(m, 1);
        return (int) placeOf(l, r)[what - 2];
    }

    int count(int what) {
        if (what < 0 || what > 9) return -1;
        return new int[] {W, H, K, E, G, LIMIT, moves.size(), others.size(), crosses.size(), pens.size()}[what];
    }
}
