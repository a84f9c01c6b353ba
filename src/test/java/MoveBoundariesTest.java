/**
 * The boundary cases of MOVES: TICKS, SAG, parts, SKIPS, MISSED steps, CROSSES and the RUN: terms 3, and promises 13 to
 * 22 and 29 to 31. On the wall of 60 by 100 HOME is 208, 208 STEPS from the hooks, (30, 40) is 100, 100, (30, 16) is
 * 68, 68, (0, 80) is 160, 200 and (60, 80) is 200, 160.
 */
public final class MoveBoundariesTest extends Checks {
    private static final String DOWN_UP = "line 30 40 30 16;line 30 16 30 40;";
    private static final String HUNDRED_FIFTY = "again 75 0 0 (line 30 40 30 16;)";

    /** Of a wall of 200 at 2 STEPS a unit (100, 1), (100, 2) and (100, 3) are the same STEPS: MOVES without a TICK. */
    private static CordPens wide(String text) { return on(200, 100, 2, text); }

    private static void sees(CordPens x, int move, int left, int right) {
        x.seen(move, x.place(left, right, 0), x.place(left, right, 1));
    }

    private static void seesAgain(CordPens x, int... moveXY) {
        x.forget();
        for (int i = 0; i < moveXY.length; i += 3) x.seen(moveXY[i], moveXY[i + 1], moveXY[i + 2]);
    }

    private static void finds(String call, CordPens x, int d, String want) {
        StringBuilder s = new StringBuilder().append(x.found(d, 0));
        for (int what = 1; what <= 2 * x.count(8); what++) s.append(' ').append(x.found(d, what));
        same(call, s.toString(), want);
    }

    // ---- Terms 3

    @Says("TICKS: the greater difference of LEFT or of RIGHT, without sign")
    private static void d1GreaterDifference() {
        CordPens x = sixty("to 0 80;to 30 100;to 60 80;to 30 100;");
        row("LEFT less, LEFT more, RIGHT less, RIGHT more", "48 48 48 48", x.look(0, 3), x.look(1, 3), x.look(2, 3), x.look(3, 3));
        row("both the same", "108", sixty("to 30 40;").look(0, 3));
        x = sixty("to 0 80;to 60 80;");
        row("one more, the other one less", "40", x.look(1, 3));
        row("none at all", "0 0", wide("to 100 1;to 100 2;to 100 3;").look(1, 3), wide("to 100 1;to 100 2;to 100 3;").look(2, 3));
    }

    @Says("behind TICK i of n both are what they were and i times the difference by n, cut towards 0")
    private static void d1StepsBehindATick() {
        CordPens x = sixty("to 0 80;to 30 100;to 60 80;");
        x.begin();
        // RIGHT goes from 208 to 200 in 48: -8 5 by 48 is still none, -8 6 by 48 is -1.
        x.tick(5);
        row("TICK 5 there", x.place(203, 208, 0) + " " + x.place(203, 208, 1), x.run(2), x.run(3));
        x.tick(1);
        row("TICK 6 there", x.place(202, 207, 0) + " " + x.place(202, 207, 1), x.run(2), x.run(3));
        x.tick(41);
        row("TICK 47 there", x.place(161, 201, 0) + " " + x.place(161, 201, 1), x.run(2), x.run(3));
        x.tick(1 + 5);
        row("TICK 5 back", x.place(165, 200, 0) + " " + x.place(165, 200, 1), x.run(2), x.run(3));
        x.tick(1);
        row("TICK 6 back", x.place(166, 201, 0) + " " + x.place(166, 201, 1), x.run(2), x.run(3));
        x.tick(42 + 5);
        row("TICK 5 of the third, LEFT", x.place(208, 203, 0) + " " + x.place(208, 203, 1), x.run(2), x.run(3));
        x.tick(1);
        row("TICK 6 of the third, LEFT", x.place(207, 202, 0) + " " + x.place(207, 202, 1), x.run(2), x.run(3));
    }

    @Says("SAG of a MOVE: over TICKS the greatest")
    private static void d2SagWithoutTicks() {
        CordPens x = wide("to 100 1;to 100 2;to 101 2;");
        row("no TICK", "0 0", x.look(1, 3), x.sag(1));
        // The greatest is amid the TICKS: (3000, 8485) behind the 20th of 40, and 0 at both ends.
        due("the greatest", sixty("line 0 80 60 80;").sag(1), 485);
        due("from right to left, too", sixty("line 60 80 0 80;").sag(1), 485);
    }

    @Says("by the ROOT of (dx dx and dy dy) or 1, cut")
    private static void d2SagBetweenOnePlace() {
        // RIGHT goes from 2 to 4, and X, Y of the PLACE are 19999 and 199 behind each TICK: the ROOT is 0.
        CordPens x = wide("line 200 1 200 2;");
        row("PLACES", "19999 199 19999 199", x.place(400, 2, 0), x.place(400, 2, 1), x.place(400, 4, 0), x.place(400, 4, 1));
        row("TICKS and SAG", "2 0", x.look(1, 3), x.sag(1));
    }

    @Says("TRUE in p parts: a MOVE to each place i p-ths of the way")
    private static void d3PartsOfNoLength() {
        // A MOVE without a TICK: its PLACE is (10000, 0), told is the straight line down from (100, 1): 0 away.
        CordPens x = wide("to 100 1;line 100 1 100 2;");
        row("no TICK in any part", "0 1", x.look(1, 3), x.parts(1, 0));
    }

    @Says("the greatest distance, over all TICKS of all")
    private static void d3PartsUpToTheLastTick() {
        // The PLACE at its end is 15 from the told line, those ahead of it 5 at most, and no part brings it nearer.
        CordPens x = sixty("line 0 5 1 5;");
        row("the PLACE at last", "485", x.place(x.look(1, 4), x.look(1, 5), 1));
        row("15 is enough, 14 isn't", "1 -1", x.parts(1, 15), x.parts(1, 14));
    }

    /** Read so: "behind TICK 0" is a place of the MOVE, too, and what it was may lie off the line of its told places. */
    @Says("the greatest distance, over all TICKS of all, from the straight line of its told places")
    private static void d3PartsFromTick0On() {
        CordPens x = sixty("line 0 15 0 14;");
        // 30, 123 STEPS are at X 35, those of TICK 1 and 2 are at 23 and nearer.
        row("the PLACE at first", "30 123 35", x.look(0, 4), x.look(0, 5), x.place(30, 123, 0));
        row("35 is enough, 34 isn't", "1 -1", x.parts(1, 35), x.parts(1, 34));
    }

    @Says("TICKS of MOVES that are down in which X and Y of the PLACE change by more than v together")
    private static void d4MoreThanV() {
        CordPens x = sixty("line 30 40 30 16;");
        int n = x.look(1, 3), least = MAX, most = 0;
        for (int i = 0; i < n; i++) {
            int change = x.place(100 - i, 100 - i, 1) - x.place(99 - i, 99 - i, 1);
            least = Math.min(least, change);
            most = Math.max(most, change);
        }
        row("one less than the least, the least", n + " 1", x.skips(least - 1), x.skips(least) < n ? 1 : 0);
        row("one less than the greatest, the greatest", "1 0", x.skips(most - 1) > 0 ? 1 : 0, x.skips(most));
        row("of MOVES that are up none", "0", sixty("to 30 40;to 30 16;").skips(0));
        row("TICKS between MOVES: none, MOVE 0 down: all", "108", sixty("line 30 100 30 40;").skips(0));
    }

    @Says("TICKS of MOVES that are down in which X and Y of the PLACE change by more than v together")
    private static void d4OneTickAndNone() {
        CordPens x = sixty("line 3 8 3 9;");
        int change = Math.abs(x.real(1, 0) - x.real(0, 0)) + Math.abs(x.real(1, 1) - x.real(0, 1));
        row("of one TICK", "1 1 0", x.look(1, 3), x.skips(change - 1), x.skips(change));
        row("without a TICK", "0", wide("to 100 1;line 100 1 100 2;line 100 2 100 3;").skips(0));
        x = sixty(HUNDRED_FIFTY);
        row("of 150", 75 * 32 + "", x.skips(0));
        draw(x, "line 30 40 30 16;");
        row("of a shorter DRAWING behind a longer one", "32 32 140", x.skips(0), x.ticks(1), x.ticks(0));
    }

    @Says("TICKS of MOVES that are down in which X and Y of the PLACE change by more than v together")
    private static void d4TogetherIsTheSum() {
        // Level from (0, 80) to (60, 80): the first TICK goes from (0, 8000) by 75 aside and 43 down.
        CordPens x = sixty("line 0 80 60 80;");
        int dx = x.place(161, 199, 0), dy = x.place(161, 199, 1) - 8000;
        int sum = dx + dy, many = 0;
        for (int i = 0; i < 40; i++) {
            int ax = x.place(161 + i, 199 - i, 0) - x.place(160 + i, 200 - i, 0);
            int ay = Math.abs(x.place(161 + i, 199 - i, 1) - x.place(160 + i, 200 - i, 1));
            if (ax + ay > sum) many++;
        }
        due("both without sign, down and up", x.skips(sum), many);
        due("a TICK that changes just v isn't one", x.skips(sum - 1) > many, true);
    }

    @Says("as a MOVE begins (at once as the one ahead of it ends) a cord has n STEPS more than it is told (or fewer), and from then on")
    private static void d5MissedFromItsBeginOn() {
        CordPens x = sixty(DOWN_UP);
        x.miss(1, 0, 3);
        x.miss(2, 0, -5);
        row("behind MOVE 0, 1, 2", "3000 " + x.place(71, 68, 0) + " " + x.place(98, 100, 0), x.real(0, 0), x.real(1, 0), x.real(2, 0));
        x.begin();
        x.tick(107);
        row("one TICK ahead of the end of MOVE 0", x.place(101, 101, 0) + "", x.run(2));
        x.tick(1);
        row("at its end MOVE 1 has begun", "1 0 " + x.place(103, 100, 0), x.run(0), x.run(1), x.run(2));
        x.tick(31);
        row("one ahead of the end of MOVE 1", x.place(72, 69, 0) + "", x.run(2));
        x.tick(1);
        row("at its end", x.place(66, 68, 0) + "", x.run(2));
        x.tick(32);
        row("at the end of all", x.place(98, 100, 0) + "", x.run(2));
    }

    @Says("CROSSES, at most 12, of MOVES, rising")
    private static void d6Crosses() {
        CordPens x = sixty(HUNDRED_FIFTY);
        for (int k = 0; k < 11; k++) x.seen(k, 0, 0);
        row("the 12th, a 13th", "12 -1 12", x.seen(11, 0, 0), x.seen(12, 0, 0), x.count(8));
        x.forget();
        row("rising: 5, 5 again, 4, 6, 149, 150", "1 -1 -1 2 3 -1", x.seen(5, 0, 0), x.seen(5, 0, 0), x.seen(4, 0, 0), x.seen(6, 0, 0), x.seen(149, 0, 0), x.seen(150, 0, 0));
    }

    @Says("how many STEPS (l, r; each -6 .. 6) there are more by then")
    private static void d7SixEachWay() {
        int[][] inside = {{6, 0}, {-6, 0}, {0, 6}, {0, -6}, {6, 6}, {6, -6}, {-6, 6}, {-6, -6}};
        int[][] beyond = {{7, 0}, {-7, 0}, {0, 7}, {0, -7}, {7, 6}, {-7, -6}, {6, 7}, {-6, -7}};
        for (int[] lr : inside) {
            CordPens x = sixty("to 30 40;");
            sees(x, 0, 100 + lr[0], 100 + lr[1]);
            finds("6", x, 0, (Math.abs(lr[0]) + Math.abs(lr[1])) + " " + lr[0] + " " + lr[1]);
        }
        for (int[] lr : beyond) {
            CordPens x = sixty("to 30 40;");
            sees(x, 0, 100 + lr[0], 100 + lr[1]);
            finds("7", x, 0, "-2 -2 -2");
        }
    }

    @Says("how many STEPS (l, r; each -6 .. 6) there are more by then")
    private static void d7FromEdgeToEdge() {
        // From each pair of STEPS at the edge to each other one: nothing leads beyond it.
        for (int l1 = -6; l1 <= 6; l1++) for (int r1 = -6; r1 <= 6; r1 += Math.abs(l1) == 6 ? 1 : 12) {
            for (int l2 = -6; l2 <= 6; l2++) for (int r2 = -6; r2 <= 6; r2 += Math.abs(l2) == 6 ? 1 : 12) {
                CordPens x = sixty(DOWN_UP);
                sees(x, 0, 100 + l1, 100 + r1);
                sees(x, 2, 100 + l2, 100 + r2);
                int sum = Math.abs(l1) + Math.abs(r1) + Math.abs(l2 - l1) + Math.abs(r2 - r1);
                row("edge to edge", sum + " " + l1 + " " + r1 + " " + l2 + " " + r2, x.found(0, 0), x.found(0, 1), x.found(0, 2), x.found(0, 3), x.found(0, 4));
            }
        }
    }

    @Says("FOUND with DOUBT D: for each CROSS how many STEPS")
    private static void d7WhatWasFoundAheadDoesNotMatter() {
        CordPens x = sixty("to 30 40;");
        for (int l = -6; l <= 6; l += 6) for (int r = -6; r <= 6; r += 6) {
            seesAgain(x, 0, 0, 0);
            finds("nothing fits", x, 0, "-2 -2 -2");
            x.forget();
            sees(x, 0, 100 + l, 100 + r);
            finds("then " + l + ", " + r, x, 0, (Math.abs(l) + Math.abs(r)) + " " + l + " " + r);
        }
        x.forget();
        row("then no CROSS", "0 3000", x.found(0, 0), x.mended(0, 0, 0));
    }

    @Says("so that PLACE of its STEPS and those is D away at most in X and in Y")
    private static void d7DAwayAtMost() {
        int[][] way = {{1, 0}, {-1, 0}, {0, 1}, {0, -1}};
        for (int[] w : way) {
            // The PLACES around (3000, 4000) are 41 and more aside: with 5 of DOUBT none other comes near.
            CordPens x = sixty("to 30 40;");
            x.seen(0, 3000 + 5 * w[0], 4000 + 5 * w[1]);
            row("just 5, and less", "0 -2", x.found(5, 0), x.found(4, 0));
        }
        CordPens x = sixty("to 30 40;");
        x.seen(0, 3000, 4000);
        row("0 away with 0 of DOUBT", "0", x.found(0, 0));
        seesAgain(x, 0, 3005, 4006);
        row("both count", "0 -2", x.found(6, 0), x.found(5, 0));
        seesAgain(x, 0, 3999, 4999);
        row("999 of DOUBT", "0", x.found(999, 0));
    }

    @Says("the sum of changes of l and of r without sign (from 0, 0 on) is least")
    private static void d7LeastSum() {
        CordPens x = sixty(DOWN_UP + DOWN_UP);
        sees(x, 0, 102, 99);
        sees(x, 1, 68 + 2, 68 - 1);
        finds("what stays costs nothing", x, 0, "3 2 -1 2 -1");
        x.forget();
        sees(x, 0, 102, 99);
        sees(x, 1, 68 - 2, 68 + 1);
        finds("there and back", x, 0, "9 2 -1 -2 1");
        // (1, 0) and (0, -1) fit the first CROSS with 32; the second one fits (1, 0) alone.
        x.forget();
        x.seen(0, 3041, 4000);
        finds("by itself the least l", x, 32, "1 0 -1");
        sees(x, 2, 101, 100);
        finds("but in all the least sum", x, 32, "1 1 0 1 0");
    }

    /** PLACES around 100, 100: (0, -1) 3041 3968, (0, -2) 3082 3937, (1, -1) 3083 3999, (2, 0) 3084 4061. */
    @Says("of several the least l at the first CROSS, then r, then at the next one")
    private static void d8OfSeveralTheLeast() {
        CordPens x = sixty(DOWN_UP + DOWN_UP);
        // The second CROSS fits (0, -2) alone of those that cost 2; the first one all on the way there.
        seesAgain(x, 0, 3050, 3960, 2, 3163, 3840);
        finds("r: -2, -1 or 0 at first", x, 100, "2 0 -2 0 -2");
        seesAgain(x, 0, 2950, 3960, 2, 2837, 3840);
        finds("l: -2, -1 or 0 at first", x, 100, "2 -2 0 -2 0");
        seesAgain(x, 0, 3050, 4040, 2, 3163, 4160);
        finds("l: 0, 1 or 2 at first", x, 100, "2 0 0 2 0");
        seesAgain(x, 0, 2950, 4040, 2, 2837, 4160);
        finds("r: 0, 1 or 2 at first", x, 100, "2 0 0 0 2");
        // (0, 0), (0, 1) or (-1, 1) at first, then (-1, 1): the least l goes ahead of the least r.
        seesAgain(x, 0, 2958, 4020, 2, 2868, 3999);
        finds("l goes ahead of r", x, 51, "2 -1 1 -1 1");
        // First (0, 0) alone, then what is on the way to (0, -2), then that.
        seesAgain(x, 0, 2910, 4000, 2, 3050, 3960, 4, 3163, 3840);
        finds("then at the next one", x, 100, "2 0 0 0 -2 0 -2");
    }

    // ---- Promises 13 to 18

    @Says("SAG; NONE: no such MOVE.")
    private static void p13NoSuchMove() {
        CordPens x = sixty("line 0 80 60 80;");
        row("the first one, the last one", "1 485", x.sag(0) >= 0 ? 1 : 0, x.sag(1));
        row("none", "-1 -1 -1 -1", x.sag(-1), x.sag(2), x.sag(MIN), x.sag(MAX));
        row("the 150th", "0 -1", sixty(HUNDRED_FIFTY).sag(149), sixty(HUNDRED_FIFTY).sag(150));
        due("without MOVES", sixty().sag(0), -1);
    }

    @Says("In how many parts (1 .. 64, the fewest) a MOVE is TRUE by e at most")
    private static void p14ByEAtMost() {
        CordPens x = sixty("line 0 80 60 80;");
        row("just 485, one less", "1 2", x.parts(1, 485), x.parts(1, 484));
        row("any", "1", x.parts(1, MAX));
        row("none away", "1", sixty("line 30 40 30 16;").parts(1, 0));
    }

    @Says("In how many parts (1 .. 64, the fewest)")
    private static void p14UpTo64Parts() {
        Oracle o = new Oracle();
        o.wall(60, 100, 2);
        Oracle.Move of64 = new Oracle.Move(6, 91, 9, 4, true), of65 = new Oracle.Move(18, 21, 38, 93, true);
        row("in 64 by 52, in 65 by 65", "52 65", (int) o.trueIn(of64, 64), (int) o.trueIn(of65, 65));
        for (int p = 1; p < 64; p++) due("in " + p, o.trueIn(of64, p) > 52, true);
        for (int p = 1; p < 65; p++) due("in " + p, o.trueIn(of65, p) > 65, true);
        row("64 are enough, 65 are too many", "64 -1", sixty("line 6 91 9 4;").parts(1, 52), sixty("line 18 21 38 93;").parts(1, 65));
    }

    @Says("NONE: in none, no such MOVE, e below 0.")
    private static void p14None() {
        CordPens x = sixty("line 0 80 60 80;");
        row("in none", "-1", x.parts(1, 0));
        row("no such MOVE", "-1 -1 -1 -1", x.parts(-1, 999), x.parts(2, 999), x.parts(MIN, 999), x.parts(MAX, 999));
        row("e below 0", "-1 -1", x.parts(1, -1), x.parts(1, MIN));
        due("of a straight one, too", sixty("line 30 40 30 16;").parts(1, -1), -1);
    }

    @Says("SKIPS; NONE: v below 0.")
    private static void p15Below0() {
        CordPens x = sixty("line 30 40 30 16;");
        row("-1, 0, the greatest", "-1 32 0 -1", x.skips(-1), x.skips(0), x.skips(MAX), x.skips(MIN));
        row("without MOVES", "0 -1", sixty().skips(0), sixty().skips(-1));
    }

    @Says("All TICKS of the DRAWING, what 0; of MOVES that are down, 1. NONE for another what.")
    private static void p16Ticks() {
        CordPens x = sixty("line 30 40 30 16;");
        row("all, down", "140 32", x.ticks(0), x.ticks(1));
        row("another what", "-1 -1 -1 -1", x.ticks(-1), x.ticks(2), x.ticks(MIN), x.ticks(MAX));
        row("without MOVES", "0 0 -1", sixty().ticks(0), sixty().ticks(1), sixty().ticks(2));
        row("of 150", (108 + 149 * 32) + " " + 75 * 32, sixty(HUNDRED_FIFTY).ticks(0), sixty(HUNDRED_FIFTY).ticks(1));
    }

    @Says("MISSED STEPS (-9 .. 9, more than told; in place of those told of it ahead)")
    private static void p17NineEachWay() {
        CordPens x = sixty(DOWN_UP);
        row("9 and -9", "1 1", x.miss(0, 0, 9) ? 1 : 0, x.miss(0, 1, -9) ? 1 : 0);
        row("they count", x.place(109, 91, 0) + " " + x.place(109, 91, 1), x.real(0, 0), x.real(0, 1));
        row("10 and -10", "0 0 0 0", x.miss(0, 0, 10) ? 1 : 0, x.miss(0, 1, -10) ? 1 : 0, x.miss(0, 0, MAX) ? 1 : 0, x.miss(0, 1, MIN) ? 1 : 0);
        row("and what was told stays", x.place(109, 91, 0) + "", x.real(0, 0));
        x.miss(0, 0, 4);
        row("in place of 9", x.place(104, 91, 0) + "", x.real(0, 0));
        x.miss(0, 0, 0); x.miss(0, 1, 0);
        row("0 takes them back", "3000 4000", x.real(0, 0), x.real(0, 1));
    }

    @Says("of a cord (0 left, 1 right) as a MOVE begins: true; false: no such ones.")
    private static void p17NoSuchOnes() {
        CordPens x = sixty(DOWN_UP);
        for (int move : new int[] {-1, 3, 150, MIN, MAX}) due("MOVE " + move, x.miss(move, 0, 1), false);
        for (int cord : new int[] {-1, 2, MIN, MAX}) due("cord " + cord, x.miss(0, cord, 1), false);
        row("nothing came of it", "3000 3000 3000", x.real(0, 0), x.real(1, 0), x.real(2, 0));
        row("the last MOVE", "1 " + x.place(100, 101, 0), x.miss(2, 1, 1) ? 1 : 0, x.real(2, 0));
        x = sixty(HUNDRED_FIFTY);
        row("the 150th", "1 0 " + x.place(68, 69, 0), x.miss(149, 1, 1) ? 1 : 0, x.miss(150, 1, 1) ? 1 : 0, x.real(149, 0));
        due("without MOVES", sixty().miss(0, 0, 1), false);
    }

    @Says("REAL place behind a MOVE, what 0 X, 1 Y. Integer.MIN_VALUE: no such ones.")
    private static void p18NoSuchOnes() {
        CordPens x = sixty("line 30 40 30 16;");
        row("both MOVES", "3000 4000 3000 1600", x.real(0, 0), x.real(0, 1), x.real(1, 0), x.real(1, 1));
        row("no such MOVE", times(4, MIN + " ").trim(), x.real(-1, 0), x.real(2, 0), x.real(MIN, 0), x.real(MAX, 1));
        row("no such what", times(4, MIN + " ").trim(), x.real(0, -1), x.real(0, 2), x.real(0, MIN), x.real(0, MAX));
        due("without MOVES", sixty().real(0, 0), MIN);
    }

    @Says("PLACE of its STEPS and all MISSED by then")
    private static void p18AllMissed() {
        CordPens x = sixty(HUNDRED_FIFTY);
        for (int m = 0; m < 150; m++) { x.miss(m, 0, 9); x.miss(m, 1, 9); }
        row("all there can be", "3000 " + x.place(68 + 1350, 68 + 1350, 1), x.real(149, 0), x.real(149, 1));
        x = sixty(HUNDRED_FIFTY);
        for (int m = 0; m < 150; m++) { x.miss(m, 0, -9); x.miss(m, 1, -9); }
        // 68 less 1350 is -1282 of both: as far down as 1282 are.
        row("and fewer than none", "3000 " + x.place(1282, 1282, 1), x.real(149, 0), x.real(149, 1));
    }

    // ---- Promises 19 to 22

    @Says("A CROSS behind a MOVE (behind that of the latest CROSS): how many there are; NONE: no such MOVE, there are 12.")
    private static void p19NoSuchMove() {
        CordPens x = sixty(DOWN_UP);
        row("no such MOVE", "-1 -1 -1 -1 0", x.seen(-1, 0, 0), x.seen(3, 0, 0), x.seen(MIN, 0, 0), x.seen(MAX, 0, 0), x.count(8));
        row("the first MOVE, the last one", "1 2 -1", x.seen(0, 0, 0), x.seen(2, MIN, MAX), x.seen(2, 0, 0));
        due("without MOVES", sixty().seen(0, 0, 0), -1);
    }

    @Says("NONE: no such MOVE, there are 12.")
    private static void p19RefusedCrossLeavesTheOthers() {
        CordPens x = sixty(DOWN_UP);
        sees(x, 1, 70, 68);
        x.seen(1, 0, 0); x.seen(0, 0, 0); x.seen(3, 0, 0);
        finds("the first one stands", x, 0, "2 2 0");
        x = sixty(HUNDRED_FIFTY);
        for (int k = 0; k < 12; k++) x.seen(2 * k, 3000, 4000);
        x.seen(24, 0, 0);
        row("12 stand", "12 0", x.count(8), x.found(0, 0));
    }

    @Says("No CROSSES: how many there were.")
    private static void p20Forget() {
        CordPens x = sixty(HUNDRED_FIFTY);
        due("of none", x.forget(), 0);
        for (int k = 0; k < 12; k++) x.seen(k, 0, 0);
        row("of 12, then of none", "12 0 0", x.forget(), x.count(8), x.forget());
        row("the first MOVE may be seen again", "1 1", x.seen(0, 0, 0), x.forget());
        due("without MOVES", sixty().forget(), 0);
    }

    @Says("NONE: no such D.")
    private static void p21NoSuchD() {
        CordPens x = sixty("to 30 40;");
        x.seen(0, 3000, 4000);
        row("0, 999", "0 0", x.found(0, 0), x.found(999, 0));
        row("-1, 1000", "-1 -1 -1 -1", x.found(-1, 0), x.found(1000, 0), x.found(MIN, 1), x.found(MAX, 2));
        due("it goes ahead of a wrong what", x.found(1000, 3), -1);
    }

    @Says("Integer.MIN_VALUE: no such what.")
    private static void p21NoSuchWhat() {
        CordPens x = sixty(HUNDRED_FIFTY);
        row("without CROSSES", "0 " + MIN + " " + MIN, x.found(0, 0), x.found(0, 1), x.found(0, -1));
        for (int k = 0; k < 12; k++) {
            x.seen(2 * k, 3000, 4000);
            row((k + 1) + " CROSSES", "0 0 " + MIN, x.found(0, 2 * k + 1), x.found(0, 2 * k + 2), x.found(0, 2 * k + 3));
        }
        row("far away", MIN + " " + MIN + " " + MIN, x.found(0, -1), x.found(0, MIN), x.found(0, MAX));
        x.forget();
        x.seen(0, 0, 0);
        row("it goes ahead of nothing fits", MIN + " " + MIN, x.found(0, -1), x.found(0, 3));
    }

    @Says("-2: nothing fits.")
    private static void p21NothingFits() {
        CordPens x = sixty(DOWN_UP);
        x.seen(0, 0, 0);
        row("one CROSS", "-2 -2 -2", x.found(999, 0), x.found(999, 1), x.found(999, 2));
        seesAgain(x, 0, 3000, 4000, 2, 9000, 9000);
        row("the last one", "-2 -2 -2", x.found(999, 0), x.found(999, 2), x.found(999, 4));
        seesAgain(x, 0, MIN, MAX);
        due("far away", x.found(999, 0), -2);
        seesAgain(x, 0, 3000, 4000);
        due("forgotten", x.found(999, 0), 0);
    }

    @Says("2 k and 1, 2 k and 2: l, r of CROSS k")
    private static void p21TwelveCrosses() {
        CordPens x = sixty(HUNDRED_FIFTY);
        StringBuilder want = new StringBuilder();
        int sum = 0, l = 0, r = 0;
        for (int k = 0; k < 12; k++) {
            int toL = k % 2 == 0 ? 6 : -6, toR = k % 3 - 1;
            sees(x, 2 * k, 100 + toL, 100 + toR);
            sum += Math.abs(toL - l) + Math.abs(toR - r);
            l = toL;
            r = toR;
            want.append(' ').append(l).append(' ').append(r);
        }
        finds("from side to side", x, 0, sum + want.toString());
    }

    @Says("if from the latest CROSS ahead of it on (of a MOVE below it) what was FOUND there with DOUBT D is taken off")
    private static void p22TheCrossAhead() {
        CordPens x = sixty(DOWN_UP + DOWN_UP);
        x.miss(0, 0, 2);
        x.miss(3, 0, 3);
        row("without CROSSES nothing is taken off", x.real(4, 0) + "", x.mended(4, 0, 0));
        sees(x, 1, 70, 68);
        row("MOVE 0, MOVE 1 (of the CROSS), MOVE 2", x.real(0, 0) + " " + x.real(1, 0) + " 3000 4000", x.mended(0, 0, 0), x.mended(1, 0, 0), x.mended(2, 0, 0), x.mended(2, 0, 1));
        row("MOVE 3 misses 3 more", x.place(71, 68, 0) + " " + x.place(103, 100, 0), x.mended(3, 0, 0), x.mended(4, 0, 0));
        sees(x, 3, 73, 68);
        row("the latest one below it", x.place(71, 68, 0) + " 3000", x.mended(3, 0, 0), x.mended(4, 0, 0));
    }

    @Says("what was FOUND there with DOUBT D is taken off: what 0 X, 1 Y")
    private static void p22BothCords() {
        CordPens x = sixty(DOWN_UP);
        x.miss(0, 0, -2); x.miss(0, 1, 4);
        sees(x, 0, 98, 104);
        row("both are taken off", "3000 1600", x.mended(1, 0, 0), x.mended(1, 0, 1));
        x.forget();
        sees(x, 0, 100, 103);
        // Seen otherwise than it truly is: what was FOUND, 0 and 3, is taken off of -2 and 4.
        row("as FOUND, not as MISSED", x.place(66, 69, 0) + " " + x.place(66, 69, 1), x.mended(1, 0, 0), x.mended(1, 0, 1));
        x.forget();
        x.seen(0, 2950, 4050);
        row("with 100 of DOUBT nothing was FOUND", x.real(1, 0) + " " + x.real(1, 1), x.mended(1, 100, 0), x.mended(1, 100, 1));
    }

    @Says("Integer.MIN_VALUE: no such ones, nothing fits.")
    private static void p22NoSuchOnes() {
        CordPens x = sixty(DOWN_UP);
        sees(x, 0, 102, 100);
        row("0 and 999 of DOUBT", "3000 3000", x.mended(0, 0, 0), x.mended(0, 999, 0));
        row("no such MOVE", times(4, MIN + " ").trim(), x.mended(-1, 0, 0), x.mended(3, 0, 0), x.mended(MIN, 0, 0), x.mended(MAX, 0, 1));
        row("no such D", times(4, MIN + " ").trim(), x.mended(1, -1, 0), x.mended(1, 1000, 0), x.mended(1, MIN, 0), x.mended(1, MAX, 1));
        row("no such what", times(4, MIN + " ").trim(), x.mended(1, 0, -1), x.mended(1, 0, 2), x.mended(1, 0, MIN), x.mended(1, 0, MAX));
        x.seen(2, 0, 0);
        row("nothing fits, for any MOVE", times(3, MIN + " ").trim(), x.mended(0, 0, 0), x.mended(1, 0, 0), x.mended(2, 0, 1));
        due("without MOVES", sixty().mended(0, 0, 0), MIN);
    }

    // ---- Promises 29 to 31

    @Says("A RUN begins: the pen is at HOME, no TICK is done.")
    private static void p29Begin() {
        CordPens x = sixty("line 30 40 30 16;");
        x.begin();
        row("at HOME", "0 0 3000 " + x.place(208, 208, 1) + " 0 0", x.run(0), x.run(1), x.run(2), x.run(3), x.run(4), x.tick(0));
        x.tick(139);
        x.begin();
        row("anew from amid", "0 0 0", x.run(0), x.run(1), x.tick(0));
        x.tick(140);
        x.begin();
        row("anew from its end", "0 0 0 0", x.run(0), x.run(1), x.run(4), x.tick(0));
    }

    @Says("A RUN begins: the pen is at HOME, no TICK is done.")
    private static void p29WithoutMoves() {
        CordPens x = sixty();
        x.begin();
        row("at HOME and at its end", "0 0 3000 1 0 0", x.run(0), x.run(1), x.run(2), x.run(4), x.tick(0), x.tick(100000));
    }

    /** Read so: a MOVE without a TICK is over as the RUN begins, and what it MISSED counts. */
    @Says("A RUN begins: the pen is at HOME, no TICK is done.")
    private static void p29FirstMovesWithoutTicks() {
        CordPens x = on(200, 20, 2, "to 100 19;to 100 1;");
        row("TICKS", "0 3", x.look(0, 3), x.look(1, 3));
        x.miss(0, 0, 3);
        x.begin();
        int left = x.steps(10000, 2000, 0), right = x.steps(10000, 2000, 1);
        row("past the first one", "1 0 " + x.place(left + 3, right, 0) + " 0 0", x.run(0), x.run(1), x.run(2), x.run(4), x.tick(0));
        x = on(200, 20, 2, "to 100 19;");
        x.begin();
        row("at its end at once", "1 0 1 0", x.run(0), x.run(1), x.run(4), x.tick(100000));
    }

    @Says("TICKS of the RUN (0 .. 100000), MOVE behind MOVE, MISSED ones, too: how many are done in all")
    private static void p30Edges() {
        CordPens x = sixty("line 30 40 30 16;");
        x.begin();
        row("0, 1", "0 1", x.tick(0), x.tick(1));
        row("up to the end of MOVE 0, beyond it", "108 109", x.tick(107), x.tick(1));
        row("up to the end, beyond it", "140 140 140", x.tick(31), x.tick(1), x.tick(100000));
        // More than 100000 in all.
        x = on(200, 200, 20, "again 75 0 0 (to 0 1;to 200 200;)");
        int all = x.ticks(0), done = 0;
        due("there are that many", all > 300000, true);
        x.begin();
        for (int i = 0; i < 12; i++) {
            done = Math.min(done + 100000, all);
            due("100000 more", x.tick(100000), done);
        }
        due("at its end", x.run(4), 1);
    }

    @Says("NONE, and nothing happens: no such number, no RUN.")
    private static void p30NoSuchNumber() {
        CordPens x = sixty("line 30 40 30 16;");
        row("no RUN", "-1 -1 -1", x.tick(0), x.tick(1), x.tick(-1));
        x.begin();
        x.tick(5);
        row("no such number", "-1 -1 -1 -1", x.tick(-1), x.tick(100001), x.tick(MIN), x.tick(MAX));
        row("nothing happened", "0 5 5", x.run(0), x.run(1), x.tick(0));
        due("100000 is one", x.tick(100000), 140);
    }

    @Says("NONE, and nothing happens: no such number, no RUN.")
    private static void p30NoRunNoMore() {
        CordPens x = sixty("line 30 40 30 16;");
        x.begin(); x.set(0, 0);
        due("behind a STRETCH", x.tick(1), -1);
        x.begin(); draw(x, "line 30 40 30 16;");
        due("behind a DRAWING", x.tick(1), -1);
        x.begin(); x.wall(60, 100, 2);
        due("behind a WALL", x.tick(1), -1);
        x.begin();
        row("it begins again", "0 0", x.tick(1), x.run(0));
    }

    @Says("what 0: the MOVE that goes on (all MOVES behind the last one), 1: its TICKS done")
    private static void p31TheMoveThatGoesOn() {
        CordPens x = sixty("line 30 40 30 16;");
        x.begin();
        x.tick(107);
        row("one ahead of the end of MOVE 0", "0 107 0", x.run(0), x.run(1), x.run(4));
        x.tick(1);
        row("at the end of MOVE 0", "1 0 0", x.run(0), x.run(1), x.run(4));
        x.tick(31);
        row("one ahead of the end", "1 31 0", x.run(0), x.run(1), x.run(4));
        x.tick(1);
        row("at its end", "2 0 3000 1600 1", x.run(0), x.run(1), x.run(2), x.run(3), x.run(4));
        x.tick(1);
        row("beyond it", "2 0 3000 1600 1", x.run(0), x.run(1), x.run(2), x.run(3), x.run(4));
        x = sixty(HUNDRED_FIFTY);
        x.begin(); x.tick(100000);
        row("behind 150", "150 0 3000 1600 1", x.run(0), x.run(1), x.run(2), x.run(3), x.run(4));
    }

    /** Read so: a MOVE without a TICK ends as it begins, so it never goes on. */
    @Says("what 0: the MOVE that goes on (all MOVES behind the last one)")
    private static void p31MovesWithoutTicks() {
        CordPens x = wide("to 100 1;to 100 2;to 100 3;to 100 40;");
        int first = x.look(0, 3);
        x.begin(); x.tick(first - 1);
        row("ahead of them", "0 " + (first - 1), x.run(0), x.run(1));
        x.tick(1);
        row("past two of them at once", "3 0 0", x.run(0), x.run(1), x.run(4));
        x.tick(0);
        row("and still", "3 0", x.run(0), x.run(1));
        x = wide("to 100 1;to 100 2;to 100 3;");
        x.begin(); x.tick(first);
        row("at the end", "3 0 1 " + first, x.run(0), x.run(1), x.run(4), x.tick(100000));
    }

    @Says("2, 3: X, Y of the PLACE where the pen truly is")
    private static void p31WhereThePenTrulyIs() {
        CordPens x = sixty(DOWN_UP);
        x.begin();
        x.miss(0, 0, 2);
        row("of MOVE 0 from its begin on", x.place(210, 208, 0) + " " + x.place(210, 208, 1), x.run(2), x.run(3));
        x.miss(1, 1, 3);
        row("of a later one not yet", x.place(210, 208, 0) + " " + x.place(210, 208, 1), x.run(2), x.run(3));
        x.tick(100000);
        row("all of them at the end", x.place(102, 103, 0) + " " + x.place(102, 103, 1), x.run(2), x.run(3));
        row("as REAL has it", x.real(2, 0) + " " + x.real(2, 1), x.run(2), x.run(3));
    }

    @Says("Integer.MIN_VALUE: no RUN, no such what.")
    private static void p31NoRunNoSuchWhat() {
        CordPens x = sixty("line 30 40 30 16;");
        for (int what = 0; what < 5; what++) due("no RUN, what " + what, x.run(what), MIN);
        x.begin();
        for (int what = 0; what < 5; what++) due("a RUN, what " + what, x.run(what) != MIN, true);
        row("no such what", times(4, MIN + " ").trim(), x.run(-1), x.run(5), x.run(MIN), x.run(MAX));
    }

    public static void main(String[] args) { runAll(MoveBoundariesTest.class); }
}
