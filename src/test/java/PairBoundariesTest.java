/** The boundary cases of two machines, their JOINTS and of PENS: terms 4, and promises 23 to 28. */
public final class PairBoundariesTest extends Checks {
    private static final String HUNDRED_FIFTY = "again 75 0 0 (line 30 40 30 16;)";

    /** Both on the wall of 60 by 100, the first one with its text, the other one with its own. */
    private static CordPens pair(String first, String other) {
        CordPens x = sixty(other);
        x.other();
        draw(x, first);
        return x;
    }

    /** CLEAR by d and no more, with both behind their one MOVE. */
    private static void clearBy(String call, CordPens x, int v, int d) { clearBy(call, x, v, d, 1); }

    private static void clearBy(String call, CordPens x, int v, int d, int k) {
        row(call, "1 0", x.clear(v, d, 1, k), x.clear(v, d + 1, 1, k));
    }

    // ---- Terms 4

    @Says("V 1 .. W")
    private static void e1Apart() {
        CordPens x = pair("to 30 40;", "to 30 40;");
        row("clear: 0, 1, 60, 61", "-1 1 1 -1", x.clear(0, 0, 0, 0), x.clear(1, 0, 0, 0), x.clear(60, 0, 0, 0), x.clear(61, 0, 0, 0));
        row("together", "-1 108 108 -1", x.together(0, 0), x.together(1, 0), x.together(60, 0), x.together(61, 0));
        row("joint", "-1 0 0 -1", x.joint(0, 5, 0), x.joint(1, 5, 0), x.joint(60, 5, 0), x.joint(61, 5, 0));
        x = on(20, 20, 2);
        row("W 20", "1 -1", x.clear(20, 0, 0, 0), x.clear(21, 0, 0, 0));
        x = on(200, 200, 2);
        row("W 200", "1 -1", x.clear(200, 0, 0, 0), x.clear(201, 0, 0, 0));
    }

    @Says("CLEAR by D (0 .. 50 units)")
    private static void e1Distance() {
        CordPens x = on(200, 100, 2);
        row("clear: -1, 0, 50, 51", "-1 1 1 -1", x.clear(200, -1, 0, 0), x.clear(200, 0, 0, 0), x.clear(200, 50, 0, 0), x.clear(200, 51, 0, 0));
        row("together", "-1 0 0 -1", x.together(200, -1), x.together(200, 0), x.together(200, 50), x.together(200, 51));
    }

    @Says("the first one's pen is at least D away from the other one's left cord")
    private static void e2FromTheLeftCord() {
        // The cord from (30, 0) to (90, 80) is 100 long: 60 60 by 100.
        clearBy("just 36 from amid the cord", pair("to 30 60;", "to 60 80;"), 30, 36);
        // The cord from (60, 0) to (90, 100), the pen at (30, 40): 4200 by the root of 10900, 40.2.
        clearBy("40.2 from amid the cord", pair("to 30 40;", "to 5 5;to 30 100;"), 60, 40, 2);
    }

    @Says("and the other one's pen from the first one's right cord")
    private static void e2FromTheRightCord() {
        // The cord from (60, 0) to (0, 80), the other pen at (60, 60): 60 60 by 100.
        clearBy("just 36 from amid the cord", pair("to 0 80;", "to 30 60;"), 30, 36);
        // The other pen at (80, 50), the cord from (60, 0) to (30, 60): 2700 by the root of 4500, 40.2.
        clearBy("40.2 from amid the cord", pair("to 30 60;", "to 50 50;"), 30, 40);
    }

    @Says("from each of its places, from (V, 0) or (W, 0) to the pen")
    private static void e2FromTheCordsEnds() {
        // The first pen at (30, 40) is just 50 from the hook at (60, 0), the other one at (108, 14), too.
        CordPens x = pair("to 30 40;", "to 48 14;");
        row("just 50 from the hook", "1", x.clear(60, 50, 1, 1));
        // The other pen at (1, 50) is 48.04 from the straight line through (60, 0) and (50, 50), but 49 from that pen.
        clearBy("the right cord ends at the pen", pair("to 50 50;", "to 0 50;"), 1, 49);
        // The first pen at (0, 5) is 23 from the straight line through (30, 0) and (90, 50), but 30.4 from the hook.
        clearBy("the left cord ends at the hook", pair("to 0 5;", "to 60 50;"), 30, 30);
        // Its mirror: the other pen at (90, 5), the right cord from (60, 0) to (0, 50).
        clearBy("the right cord ends at the hook", pair("to 0 50;", "to 60 5;"), 30, 30);
        // Its mirror: the first pen at (60, 50), the left cord from (1, 0) to (11, 50).
        clearBy("the left cord ends at the pen", pair("to 60 50;", "to 10 50;"), 1, 49);
    }

    @Says("from each of its places, from (V, 0) or (W, 0) to the pen")
    private static void e2JustBesideTheCordsEnds() {
        // With V 60 both hooks are (60, 0). The first pen at (53, 24) is just 25 from it, but 24.9998 from the cord to (101, 12).
        clearBy("the hook isn't the nearest place of the left cord", pair("to 53 24;", "to 41 12;"), 60, 24);
        // Its mirror: the other pen at (67, 24), the right cord from (60, 0) to (19, 12).
        clearBy("the hook isn't the nearest place of the right cord", pair("to 19 12;", "to 7 24;"), 60, 24);
        // The pens at (20, 20) and (4, 8) are just 20 apart, each beyond the end of the other one's cord.
        clearBy("the first pen is the lower one", pair("to 20 20;", "to 3 8;"), 1, 20);
        clearBy("the other one is", pair("to 57 8;", "to 40 20;"), 1, 20);
    }

    @Says("the first one's pen is at least D away from the other one's left cord")
    private static void e2OnTheCord() {
        // (50, 50) lies on the cord from (30, 0) to (70, 100).
        clearBy("on the left cord", pair("to 50 50;", "to 40 100;"), 30, 0);
        // (40, 50) lies on the cord from (60, 0) to (20, 100): the other pen at 10 and 30.
        clearBy("on the right cord", pair("to 20 100;", "to 10 50;"), 30, 0);
        clearBy("pens at one place", pair("to 31 50;", "to 30 50;"), 1, 0);
    }

    @Says("They begin at HOMES.")
    private static void e3Homes() {
        // The cord from (30, 0) to (60, 100): 3000 by the root of 10900 is 28.7 from (30, 100).
        CordPens x = sixty();
        row("of both, without MOVES", "1 0", x.clear(30, 28, 0, 0), x.clear(30, 29, 0, 0));
        row("together", "0 -2", x.together(30, 28), x.together(30, 29));
    }

    @Says("from CLEAR to CLEAR: the fewest TICKS in all")
    private static void e4OnlyAtOnce() {
        CordPens x = pair("to 25 45;", "to 30 45;");
        row("CLEAR at first and at last alone", "1 0 0 1", x.clear(25, 13, 0, 0), x.clear(25, 13, 1, 0), x.clear(25, 13, 0, 1), x.clear(25, 13, 1, 1));
        int first = x.ticks(0);
        x = pair("to 30 45;", "to 30 45;");
        due("one of each at once: the greater TICKS", pair("to 25 45;", "to 30 45;").together(25, 13), Math.max(first, x.ticks(0)));
    }

    @Says("MOVES of both in turn, one of them or one of each at once (the greater TICKS count)")
    private static void e4TheFirstOneGoesAhead() {
        CordPens x = pair("to 30 35;to 60 75;", "to 0 55;");
        row("CLEAR by 19", "1 1 0 0 0 1", x.clear(40, 19, 0, 0), x.clear(40, 19, 1, 0), x.clear(40, 19, 2, 0), x.clear(40, 19, 0, 1), x.clear(40, 19, 1, 1), x.clear(40, 19, 2, 1));
        int other = sixty("to 0 55;").look(0, 3), one = x.look(0, 3), two = x.look(1, 3);
        due("its first MOVE, then both", x.together(40, 19), one + Math.max(two, other));
        due("all is CLEAR by 0: the other one goes with the one that takes longer", x.together(40, 0), Math.min(one + Math.max(two, other), Math.max(one, other) + two));
    }

    @Says("MOVES of both in turn, one of them or one of each at once (the greater TICKS count)")
    private static void e4TheOtherOneGoesAhead() {
        CordPens x = pair("to 45 85;", "to 25 95;to 60 35;");
        row("CLEAR by 11", "1 1 1 0 0 1", x.clear(24, 11, 0, 0), x.clear(24, 11, 0, 1), x.clear(24, 11, 0, 2), x.clear(24, 11, 1, 0), x.clear(24, 11, 1, 1), x.clear(24, 11, 1, 2));
        CordPens other = sixty("to 25 95;to 60 35;");
        due("its first MOVE, then both", x.together(24, 11), other.look(0, 3) + Math.max(x.look(0, 3), other.look(1, 3)));
    }

    @Says("-2: they can't")
    private static void e4TheyCannot() {
        CordPens x = pair("to 50 45;to 0 65;", "to 15 25;to 15 80;");
        row("CLEAR by 15 at first and at last, and no way between", "1 0 0 0 0 0 1 0 1", x.clear(36, 15, 0, 0), x.clear(36, 15, 0, 1), x.clear(36, 15, 0, 2), x.clear(36, 15, 1, 0),
            x.clear(36, 15, 1, 1), x.clear(36, 15, 1, 2), x.clear(36, 15, 2, 0), x.clear(36, 15, 2, 1), x.clear(36, 15, 2, 2));
        due("no way", x.together(36, 15), -2);
        // At V 30 HOMES are CLEAR by 28; the pens at (30, 40) and (60, 40) are 24 from the cords.
        x = pair("to 30 40;", "to 30 40;");
        row("not CLEAR at last", "108 -2", x.together(30, 24), x.together(30, 25));
        row("not CLEAR at first", "-2", x.together(30, 29));
    }

    @Says("heights of ends of LINES (both ends of MOVES that are down) that lie on it")
    private static void e5EndsOnTheEdge() {
        CordPens x = pair("line 40 10 50 11;", "line 20 12 30 13;");
        // The other one's at V 20: (40, 12) and (50, 13); at V 10: (30, 12) and (40, 13).
        row("first ends", "1 2 2 0", x.joint(20, 40, 0), x.joint(20, 40, 1), x.joint(20, 40, 2), x.joint(20, 40, 3));
        row("second ends", "1 2 2 0", x.joint(20, 50, 0), x.joint(20, 50, 1), x.joint(20, 50, 2), x.joint(20, 50, 3));
        row("a first one and a second one", "1 3 3 0", x.joint(10, 40, 0), x.joint(10, 40, 1), x.joint(10, 40, 2), x.joint(10, 40, 3));
        row("beside the edge", "0 0 0 0", x.joint(20, 39, 0), x.joint(20, 39, 3), x.joint(20, 41, 0), x.joint(20, 41, 3));
        row("through it, but no end there", "0 0", x.joint(20, 45, 0), x.joint(20, 45, 3));
        x = pair("to 40 10;to 40 20;", "to 20 10;to 20 20;");
        row("MOVES that are up have none", "0 0", x.joint(20, 40, 0), x.joint(20, 40, 3));
        x = pair("line 40 10 50 10;line 50 10 40 12;", "line 20 10 30 10;");
        row("a corner is an end of both", "1 1", x.joint(20, 50, 0), x.joint(20, 50, 3));
        x = pair("line 30 100 30 90;", "line 30 100 30 90;");
        row("from HOME on: 90 and 100", "2 0 0", x.joint(60, 30, 3), x.joint(60, 90, 0), x.joint(60, 90, 1));
    }

    @Says("rising; paired in turn: GAPS are differences")
    private static void e5PairedRising() {
        CordPens x = pair("line 40 90 50 9;line 40 20 50 8;line 40 50 50 7;", "line 20 60 9 9;line 20 10 9 8;line 20 95 9 7;");
        // 20 50 90 and 10 60 95: 10, 10 and 5, without sign.
        row("three pairs", "3 25 10 0", x.joint(20, 40, 0), x.joint(20, 40, 1), x.joint(20, 40, 2), x.joint(20, 40, 3));
        x = pair("line 40 90 50 9;line 40 20 50 8;", "line 20 60 9 9;line 20 10 9 8;line 20 95 9 7;");
        row("one of the other one's has none", "2 40 30 1", x.joint(20, 40, 0), x.joint(20, 40, 1), x.joint(20, 40, 2), x.joint(20, 40, 3));
        x = pair("line 40 90 50 9;line 40 20 50 8;line 40 50 50 7;", "line 20 60 9 9;");
        row("two of the first one's have none", "1 40 40 2", x.joint(20, 40, 0), x.joint(20, 40, 1), x.joint(20, 40, 2), x.joint(20, 40, 3));
    }

    @Says("PENS: pairs of places told (the same mark by two pens), at most 20.")
    private static void e6TwentyPairs() {
        CordPens x = new CordPens();
        for (int i = 1; i <= 20; i++) due("pair " + i, x.mark(0, 0, i, 0), i);
        row("the 21st", "-1 20", x.mark(0, 0, 1, 0), x.count(9));
        row("it didn't come: one of each dx", "1 1", x.offset(0, 2), x.offset(0, 0));
        row("the 20th did", "-20 0", on(20, 20, 2).offset(0, 0), on(20, 20, 2).offset(0, 2));
        row("with 19 of DOUBT all but none", "20", x.offset(19, 2));
    }

    @Says("dx, dy (-20 .. 20 each)")
    private static void e7TwentyEachWay() {
        int[][] inside = {{20, 0}, {-20, 0}, {0, 20}, {0, -20}, {20, 20}, {-20, -20}, {20, -20}, {-20, 20}};
        for (int[] d : inside) {
            CordPens x = new CordPens();
            x.mark(100, 100, 100 + d[0], 100 + d[1]);
            row("20", d[0] + " " + d[1] + " 1", x.offset(0, 0), x.offset(0, 1), x.offset(0, 2));
        }
        int[][] beyond = {{21, 0}, {-21, 0}, {0, 21}, {0, -21}};
        for (int[] d : beyond) {
            CordPens x = new CordPens();
            x.mark(100, 100, 100 + d[0], 100 + d[1]);
            row("21 with 0 of DOUBT", "-20 -20 0", x.offset(0, 0), x.offset(0, 1), x.offset(0, 2));
            row("21 with 1 of DOUBT", "1", x.offset(1, 2));
        }
        CordPens x = new CordPens();
        x.mark(0, 0, 21, 21);
        row("21, 21 with 1 of DOUBT: 20, 20", "20 20 1", x.offset(1, 0), x.offset(1, 1), x.offset(1, 2));
    }

    @Says("such that most pairs have the second place less the first one D away at most in both")
    private static void e7DAwayAtMost() {
        CordPens x = new CordPens();
        x.mark(10, 10, 10, 10);
        x.mark(10, 10, 20, 10);
        row("10 apart in X: 5 of DOUBT, 4", "2 1", x.offset(5, 2), x.offset(4, 2));
        x = new CordPens();
        x.mark(10, 10, 10, 10);
        x.mark(10, 10, 10, 0);
        row("10 apart in Y: 5 of DOUBT, 4", "2 1", x.offset(5, 2), x.offset(4, 2));
        row("at 0, -5 alone", "-5 -5 2", x.offset(5, 0), x.offset(5, 1), x.offset(5, 2));
        x = new CordPens();
        x.mark(0, 0, 119, 0);
        row("99 of DOUBT, 98", "1 20 0 -20", x.offset(99, 2), x.offset(99, 0), x.offset(98, 2), x.offset(98, 0));
        x = new CordPens();
        x.mark(0, 0, 120, 0);
        row("120 is too far", "0", x.offset(99, 2));
        x = new CordPens();
        x.mark(MIN, MIN, MAX, MAX);
        x.mark(MAX, MAX, MIN, MIN);
        row("as far as can be", "-20 -20 0", x.offset(99, 0), x.offset(99, 1), x.offset(99, 2));
    }

    @Says("of several the least dx, dy")
    private static void e7OfSeveralTheLeast() {
        CordPens x = new CordPens();
        row("without pairs", "-20 -20 0", x.offset(0, 0), x.offset(0, 1), x.offset(0, 2));
        x.mark(0, 0, 3, -4);
        x.mark(0, 0, -2, 9);
        row("dx goes ahead of dy", "-2 9 1", x.offset(0, 0), x.offset(0, 1), x.offset(0, 2));
        x.mark(0, 0, -2, 7);
        row("then dy", "-2 7 1", x.offset(0, 0), x.offset(0, 1), x.offset(0, 2));
        x.mark(5, 5, 8, 1);
        row("but most go ahead of all", "3 -4 2", x.offset(0, 0), x.offset(0, 1), x.offset(0, 2));
        x = new CordPens();
        x.mark(0, 0, 3, -4);
        row("with 2 of DOUBT", "1 -6 1", x.offset(2, 0), x.offset(2, 1), x.offset(2, 2));
        row("with 99 of DOUBT", "-20 -20 1", x.offset(99, 0), x.offset(99, 1), x.offset(99, 2));
    }

    // ---- Promises 23 to 28

    @Says("The DRAWING is that of the other machine, too: how many MOVES it has.")
    private static void p23Other() {
        CordPens x = sixty();
        row("none", "0 0", x.other(), x.count(7));
        draw(x, HUNDRED_FIFTY);
        row("150, and the first one's stay", "0 150 150 150", x.count(7), x.other(), x.count(7), x.count(6));
        draw(x, "to 1 1;");
        row("kept from a former one", "1 150 1", x.count(6), x.count(7), x.clear(60, 0, 0, 150));
        draw(x, ")");
        row("a FAULT leaves it", "1 150", x.count(6), x.count(7));
        row("another in its place", "1 1 -1", x.other(), x.count(7), x.clear(60, 0, 0, 2));
        x.draw(0);
        row("none in its place", "0 0 -1", x.other(), x.count(7), x.clear(60, 0, 0, 1));
    }

    @Says("NONE: no such V, D, i, k.")
    private static void p24NoSuchOnes() {
        CordPens x = pair("to 30 40;to 30 16;", "to 30 40;");
        row("i 0 .. 2", "-1 1 1 -1", x.clear(60, 0, -1, 0), x.clear(60, 0, 0, 0), x.clear(60, 0, 2, 0), x.clear(60, 0, 3, 0));
        row("k 0 .. 1", "-1 1 1 -1", x.clear(60, 0, 0, -1), x.clear(60, 0, 0, 0), x.clear(60, 0, 0, 1), x.clear(60, 0, 0, 2));
        row("far away", "-1 -1 -1 -1", x.clear(MIN, 0, 0, 0), x.clear(60, MAX, 0, 0), x.clear(60, 0, MAX, 0), x.clear(60, 0, 0, MIN));
        row("V, D", "-1 -1 -1 -1", x.clear(0, 0, 0, 0), x.clear(61, 0, 0, 0), x.clear(60, -1, 0, 0), x.clear(60, 51, 0, 0));
        x = sixty(HUNDRED_FIFTY);
        x.other();
        row("behind 150", "1 -1 -1", x.clear(60, 0, 150, 150), x.clear(60, 0, 151, 0), x.clear(60, 0, 0, 151));
    }

    @Says("TOGETHER, CLEAR by D; -2: they can't; NONE: no such V, D.")
    private static void p25NoSuchOnes() {
        // The pen at (30, 40) is 40.2 from the other one's cord from (60, 0) to its HOME.
        CordPens x = pair("to 30 40;", "");
        row("one alone", "108 -2", x.together(60, 40), x.together(60, 41));
        row("far away", "-1 -1 -1 -1", x.together(MIN, 0), x.together(MAX, 0), x.together(60, MIN), x.together(60, MAX));
        row("wrong goes ahead of can't", "-1 -1 -2", x.together(0, 50), x.together(1, 51), x.together(1, 50));
        row("the other one alone", "108 -2", pair("", "to 30 40;").together(60, 40), pair("", "to 30 40;").together(60, 41));
        x = sixty(HUNDRED_FIFTY);
        x.other();
        row("150 of both", "" + (108 + 149 * 32), x.together(60, 0));
        x.draw(0);
        row("150 of the other one", "" + (108 + 149 * 32), x.together(60, 0));
    }

    @Says("what 0: pairs, 1: the sum of GAPS, 2: the greatest (0 without), 3: ends without a pair. NONE: no such V, what.")
    private static void p26NoSuchOnes() {
        CordPens x = pair("line 40 10 50 11;", "");
        row("without pairs", "0 0 0 1", x.joint(20, 40, 0), x.joint(20, 40, 1), x.joint(20, 40, 2), x.joint(20, 40, 3));
        row("no such what", "-1 -1 -1 -1", x.joint(20, 40, -1), x.joint(20, 40, 4), x.joint(20, 40, MIN), x.joint(20, 40, MAX));
        row("no such V", "-1 -1 -1 -1", x.joint(0, 40, 0), x.joint(61, 40, 0), x.joint(MIN, 40, 0), x.joint(MAX, 40, 0));
        row("any x", "0 0 0 0", x.joint(20, -1, 3), x.joint(20, 121, 3), x.joint(20, MIN, 3), x.joint(20, MAX, 3));
        row("without MOVES", "0 0 0 0", sixty().joint(1, 1, 0), sixty().joint(1, 1, 1), sixty().joint(1, 1, 2), sixty().joint(1, 1, 3));
        x = pair("line 0 10 0 20;", "line 60 30 60 50;");
        row("x 0 of the first one", "0 2", x.joint(60, 0, 0), x.joint(60, 0, 3));
        row("x 120, V and W of the other one", "0 2", x.joint(60, 120, 0), x.joint(60, 120, 3));
    }

    @Says("2: the greatest (0 without)")
    private static void p26AllEnds() {
        // All 150 MOVES are down, from HOME on: 300 ends at x 30 of the first one, at 31 of the other one.
        String down = "again 75 0 0 (line 30 100 30 99;line 30 99 30 100;)";
        CordPens x = sixty(down);
        x.other();
        row("300 of the first one", "0 300", x.joint(1, 30, 0), x.joint(1, 30, 3));
        row("300 of the other one", "0 300", x.joint(1, 31, 0), x.joint(1, 31, 3));
    }

    @Says("A pair of PENS (PARTS, any): how many there are; NONE: there are 20.")
    private static void p27Any() {
        CordPens x = new CordPens();
        row("any", "1 2 3", x.mark(MIN, MIN, MAX, MAX), x.mark(-1, -1, -1, -1), x.mark(MAX, MIN, MAX, MIN));
        row("two of them are 0, 0", "0 0 2", x.offset(0, 0), x.offset(0, 1), x.offset(0, 2));
        for (int i = 4; i <= 20; i++) x.mark(0, 0, 0, 0);
        row("20", "-1 19", x.mark(0, 0, 0, 0), x.offset(0, 2));
        x.wall(20, 20, 2); x.set(0, 3); x.forget(); x.draw(0);
        row("they stay", "20 -1", x.count(9), x.mark(0, 0, 0, 0));
    }

    @Says("OFFSET with DOUBT D (0 .. 99), what 0: dx, 1: dy, 2: how many pairs. Integer.MIN_VALUE: no such ones.")
    private static void p28NoSuchOnes() {
        CordPens x = new CordPens();
        x.mark(0, 0, 3, 4);
        row("0, 99", "1 1", x.offset(0, 2), x.offset(99, 2));
        row("no such D", times(4, MIN + " ").trim(), x.offset(-1, 0), x.offset(100, 0), x.offset(MIN, 1), x.offset(MAX, 2));
        row("no such what", times(4, MIN + " ").trim(), x.offset(0, -1), x.offset(0, 3), x.offset(0, MIN), x.offset(0, MAX));
    }

    public static void main(String[] args) { runAll(PairBoundariesTest.class); }
}
