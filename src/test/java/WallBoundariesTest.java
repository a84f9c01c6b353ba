/** The boundary cases of the wall, its cords and the TAPE: terms 1, and promises 1 to 4, 8 to 12 and 32. */
public final class WallBoundariesTest extends Checks {
    private static final int BLANKS = 0x20202020;

    private static void walls(String call, boolean want, int w, int h, int k) {
        CordPens x = new CordPens();
        due(call, x.wall(w, h, k), want);
        row(call + ", and what stands then", want ? w + " " + h + " " + k : "100 100 4", x.count(0), x.count(1), x.count(2));
    }

    private static void sets(int what, int n, boolean want) {
        CordPens x = new CordPens();
        int before = x.count(3 + what);
        due("set(" + what + ", " + n + ")", x.set(what, n), want);
        due("what stands behind set(" + what + ", " + n + ")", x.count(3 + what), want ? n : before);
    }

    // ---- What it is

    @Says("An object is used for at most 512 calls after it has been made")
    private static void a0LastOf512Calls() {
        CordPens x = new CordPens();
        for (int i = 1; i <= 511; i++) x.mark(i, i, i, i);
        due("the 512th call", x.count(9), 20);
        x = new CordPens();
        for (int i = 1; i <= 510; i++) x.feed(BLANKS, BLANKS, BLANKS, BLANKS, BLANKS);
        row("the 511th and the 512th call", "0 20", x.draw(500), x.feed(0, 0, 0, 0, 0));
    }

    // ---- Terms 1

    @Says("THE WALL is W by H units (20 .. 200 each; 100 by 100 at first)")
    private static void a1Width() {
        walls("W 19", false, 19, 100, 4);
        walls("W 20", true, 20, 100, 4);
        walls("W 200", true, 200, 100, 4);
        walls("W 201", false, 201, 100, 4);
    }

    @Says("THE WALL is W by H units (20 .. 200 each; 100 by 100 at first)")
    private static void a1Height() {
        walls("H 19", false, 100, 19, 4);
        walls("H 20", true, 100, 20, 4);
        walls("H 200", true, 100, 200, 4);
        walls("H 201", false, 100, 201, 4);
    }

    @Says("100 by 100 at first")
    private static void a1AtFirst() {
        CordPens x = new CordPens();
        row("W, H", "100 100", x.count(0), x.count(1));
        row("the far corner, and beyond", "400 -1 -1", x.steps(10000, 10000, 1), x.steps(10001, 0, 0), x.steps(0, 10001, 0));
    }

    @Says("K STEPS a unit (2 .. 20; 4 at first)")
    private static void a2StepsAUnit() {
        walls("K 1", false, 100, 100, 1);
        walls("K 2", true, 100, 100, 2);
        walls("K 20", true, 100, 100, 20);
        walls("K 21", false, 100, 100, 21);
        row("of 10 units: 4 at first, 2, 20", "40 20 200", new CordPens().steps(0, 1000, 0), on(100, 100, 2).steps(0, 1000, 0), on(100, 100, 20).steps(0, 1000, 0));
    }

    @Says("STRETCH E (0 .. 99; 0)")
    private static void a3Stretch() {
        due("at first", new CordPens().count(3), 0);
        sets(0, -1, false);
        sets(0, 0, true);
        sets(0, 99, true);
        sets(0, 100, false);
    }

    @Says("ROOT of a whole number: the greatest one whose square isn't above it.")
    private static void a4RootJustBelowASquare() {
        CordPens x = sixty();
        // 4 (3000 3000 and 4000 4000) is 10000 10000; 4 (387 387 and 4985 4985) is 24 below that.
        row("a square, and just below it", "100 99", x.steps(3000, 4000, 0), x.steps(387, 4985, 0));
        row("of 0 and of 4", "0 0", x.steps(0, 0, 0), x.steps(0, 1, 0));
    }

    @Says("ROOT of a whole number: the greatest one whose square isn't above it.")
    private static void a4RootInPlaces() {
        CordPens x = sixty();
        // 25000000 less 3000 3000 is 4000 4000; 10000 101 101 by 4 less 3041 3041 is 16254819, and 4031 4031 16248961.
        row("a square, and between squares", "4000 4031", x.place(100, 100, 1), x.place(101, 100, 1));
        // Great ones come from near and from far: what stood ahead mustn't matter.
        int far = x.place(9999, 9999, 1);
        row("behind a great one", "4000 " + far, x.place(100, 100, 1), x.place(9999, 9999, 1));
        // 10000 9999 9999 by 4 less 3000 3000 is 249941002500, and 499941 499941 is 981 above it.
        due("a great one", far, 499940);
    }

    @Says("HUNG of n STEPS: n and n E by 10000, cut.")
    private static void a5HungIsCut() {
        CordPens x = sixty();
        x.set(0, 99);
        // 101 99 is 9999, 102 99 is 10098: 101 hangs 101, 102 hangs 103; Y is the ROOT of 16502500 and of 17522500.
        row("101 and 101, 102 and 102", "3000 4062 3000 4185", x.place(101, 101, 0), x.place(101, 101, 1), x.place(102, 102, 0), x.place(102, 102, 1));
        x.set(0, 50);
        // 199 50 is 9950, 200 50 is just 10000: 199 hangs 199, 200 hangs 201.
        row("just below one, just one", "9486 9591", x.place(199, 199, 1), x.place(200, 200, 1));
        x.set(0, 1);
        due("9999 by 10000 is none", x.place(9999, 0, 0), 20832166);
        x.set(0, 2);
        // 9999 hangs 10000 then: 100 (100000000 and 14400) by 480.
        due("19998 by 10000 is one", x.place(9999, 0, 0), 20836333);
    }

    @Says("LEFT: the greatest n whose HUNG isn't above ROOT(K K (X X and Y Y)) by 100, cut")
    private static void a6GreatestNumberOfSteps() {
        CordPens x = sixty();
        row("by 100, cut: 99.98 and 100", "99 100", x.steps(0, 4999, 0), x.steps(0, 5000, 0));
        x.set(0, 99);
        // No n hangs 102: of 102 it is 101, of 103 it is 102.
        row("no n hangs just so", "101 101 102", x.steps(0, 5050, 0), x.steps(0, 5100, 0), x.steps(0, 5150, 0));
        x.wall(200, 200, 20);
        // The root of 400 800000000 is 565685; 5601 hangs 5656, 5602 hangs 5657.
        row("the greatest of all", "5601 5601", x.steps(20000, 20000, 0), x.steps(0, 20000, 1));
        x.set(0, 0);
        row("and without STRETCH", "5656 5656", x.steps(20000, 20000, 0), x.steps(0, 20000, 1));
    }

    @Says("RIGHT likewise with 100 W less X in place of X")
    private static void a6RightCord() {
        CordPens x = sixty();
        row("at the right hook, one part from it, half a unit from it", "0 0 1", x.steps(6000, 0, 1), x.steps(5999, 0, 1), x.steps(5950, 0, 1));
        row("at the left hook", "120 119", x.steps(0, 0, 1), x.steps(1, 0, 1));
    }

    @Says("X: 100 (a a less b b and K K W W) by (2 K K W), cut towards 0")
    private static void a7XIsCutTowards0() {
        CordPens x = sixty();
        // 3602 3602 less 3600 3600 is 14404: -400 by 480. 1443 1443 less 1438 1438 is 14405: -500 by 480.
        row("below 0", "0 -1", x.place(3600, 3602, 0), x.place(1438, 1443, 0));
        // 0 and 119: 23900 by 480. 0 and 121: -24100 by 480.
        row("on both sides", "49 -50", x.place(0, 119, 0), x.place(0, 121, 0));
    }

    @Says("Y: ROOT(10000 a a by (K K), cut, less X X), 0 if that is below 0.")
    private static void a7YIs0Below0() {
        CordPens x = sixty();
        // 1, 119: X is 50, 2500 less 2500. 0, 121: X is -50, 0 less 2500. 2, 119: X is 50 and 0.62, 10000 less 2500.
        row("just 0, below 0, above 0", "0 0 86", x.place(1, 119, 1), x.place(0, 121, 1), x.place(2, 119, 1));
        row("far below 0", "0 0", x.place(0, 9999, 1), x.place(0, 0, 1));
    }

    @Says("10000 a a by (K K), cut")
    private static void a7YIsCut() {
        CordPens x = on(20, 20, 3);
        // 100000000 by 9 is 11111111 and a rest, X is 1000: the ROOT of 10111111.
        row("K 3", "1000 3179", x.place(100, 100, 0), x.place(100, 100, 1));
        // X is 372000 by 360, cut; 9610000 by 9, cut, less 1033 1033 is 688.
        row("just above 0", "1033 26", x.place(31, 29, 0), x.place(31, 29, 1));
    }

    @Says("with one more or less of the left one, or of the right one (four ways): the greatest sum")
    private static void a8GrainOfEachWay() {
        CordPens x = sixty();
        // One way alone is the greatest: left more, left less, right more, right less.
        row("each way", "55 71 258 100", x.grain(0, 500), x.grain(0, 2500), x.grain(500, 0), x.grain(500, 500));
    }

    @Says("of its STEPS with one more or less of the left one")
    private static void a8GrainAtTheHooks() {
        CordPens x = sixty();
        // LEFT is 0 there: one less is hung as one more, 50 down; the right one makes -50 and 49 aside.
        due("at the left hook", x.grain(0, 0), 50);
        // RIGHT is 0: with 121 the PLACE is (6050, 0), with 119 (5950, 0); -1 of the right one is (5999, 109).
        due("at the right hook", x.grain(6000, 0), x.place(120, 1, 1) + 6000 - x.place(120, 1, 0));
    }

    @Says("a place of whole units x, y (y 1 at least)")
    private static void a9PullFrom1Down() {
        CordPens x = sixty();
        row("y 0 and 1", "-1 -1 -1 15 15 1", x.pull(30, 0, 0), x.pull(30, 0, 1), x.pull(30, 0, 2), x.pull(30, 1, 0), x.pull(30, 1, 1), x.pull(30, 1, 2));
    }

    @Says("G being the WEIGHT (1 .. 99; 1)")
    private static void a9Weight() {
        due("at first", new CordPens().count(4), 1);
        sets(1, 0, false);
        sets(1, 1, true);
        sets(1, 99, true);
        sets(1, 100, false);
        CordPens x = sixty();
        // 60 by 2 and 1 is 30; LEFT at (30, 40) is 100: G 100 30 by (2 60 40).
        x.set(1, 1);
        due("weighs 1: 3000 by 4800", x.pull(30, 40, 0), 0);
        x.set(1, 99);
        due("weighs 99: 297000 by 4800", x.pull(30, 40, 0), 61);
    }

    @Says("G LEFT (W less x) by (K W y), cut; G RIGHT x by (K W y), cut.")
    private static void a9PullIsCut() {
        CordPens x = sixty();
        x.set(1, 8);
        // 8 100 30 by 4800 is just 5.
        row("just 5", "5 5", x.pull(30, 40, 0), x.pull(30, 40, 1));
        x.set(1, 7);
        row("4.375", "4 4", x.pull(30, 40, 0), x.pull(30, 40, 1));
        row("below the left hook the right cord doesn't pull, and the other way round", "7 0 0 7", x.pull(0, 100, 0), x.pull(0, 100, 1), x.pull(60, 100, 0), x.pull(60, 100, 1));
    }

    @Says("PULL of the cords at a place of whole units x, y")
    private static void a9PullAtWholeUnits() {
        CordPens x = on(60, 100, 20);
        x.set(1, 99);
        // LEFT at (30, 1) is 600: 99 600 30 by (20 60 1); at (30, 40) it is 1000: 99 1000 30 by (20 60 40) is 61.875.
        row("high up, lower down", "1485 1485 61 61", x.pull(30, 1, 0), x.pull(30, 1, 1), x.pull(30, 40, 0), x.pull(30, 40, 1));
    }

    @Says("It MAY be drawn if both are the LIMIT at most")
    private static void a9MayBeDrawnAtTheLimit() {
        CordPens x = sixty();
        x.set(1, 99);
        x.set(2, 61);
        row("both just the LIMIT", "61 61 1", x.pull(30, 40, 0), x.pull(30, 40, 1), x.pull(30, 40, 2));
        x.set(2, 60);
        due("both one above", x.pull(30, 40, 2), 0);
        // Below the hooks 99 and 0.
        x.set(2, 99);
        row("the left one, the right one just so", "1 1", x.pull(0, 80, 2), x.pull(60, 80, 2));
        x.set(2, 98);
        row("the left one alone, the right one alone is above", "0 0", x.pull(0, 80, 2), x.pull(60, 80, 2));
    }

    @Says("the LIMIT at most (1 .. 9999; 9999)")
    private static void a9Limit() {
        due("at first", new CordPens().count(5), 9999);
        sets(2, 0, false);
        sets(2, 1, true);
        sets(2, 9999, true);
        sets(2, 10000, false);
    }

    // ---- Promises 1 to 4

    @Says("THE WALL as at first, no DRAWING (no MOVES), no other one, CROSSES, PENS; an empty TAPE.")
    private static void p01NewObject() {
        CordPens x = new CordPens();
        row("MOVES, the other one's, CROSSES, pairs", "0 0 0 0", x.count(6), x.count(7), x.count(8), x.count(9));
        row("no MOVE", NO_MOVE + " -1 " + MIN, look(x, 0, 0), x.sag(0), x.real(0, 0));
        row("an empty TAPE", "-2 0", x.draw(1), x.draw(0));
        due("the first twenty", x.feed(0, 0, 0, 0, 0), 20);
    }

    @Says("THE WALL as at first")
    private static void p01HomeOfANewObject() {
        CordPens x = new CordPens();
        // HOMES are (50, 100) and, with V 50, (100, 100): 5000 by the root of 12500 is 44.7 from each cord.
        row("CLEAR of HOMES", "1 0 1", x.clear(50, 44, 0, 0), x.clear(50, 45, 0, 0), x.clear(100, 50, 0, 0));
        x.begin();
        // LEFT and RIGHT are 447: 10000 447 447 by 16 less 5000 5000 is 99880625.
        row("the pen", "0 0 5000 9994 1", x.run(0), x.run(1), x.run(2), x.run(3), x.run(4));
    }

    @Says("no DRAWING (no MOVES)")
    private static void p01NoRunNorFault() {
        CordPens x = new CordPens();
        row("no RUN", MIN + " -1", x.run(0), x.tick(0));
        row("no FAULT", "0 -1 0", x.fault(0), x.fault(1), x.fault(2));
    }

    @Says("how many it has; NONE, and none come, if it would have more than 500")
    private static void p02FeedUpTo500() {
        CordPens x = new CordPens();
        for (int i = 1; i <= 24; i++) x.feed(BLANKS, BLANKS, BLANKS, BLANKS, BLANKS);
        due("the 25th", x.feed(BLANKS, BLANKS, BLANKS, BLANKS, BLANKS), 500);
        due("the 26th", x.feed(0, 0, 0, 0, 0), -1);
        due("the 27th", x.feed(0, 0, 0, 0, 0), -1);
        due("501 aren't there", x.draw(501), -2);
        due("the 500 are what they were", x.draw(500), 0);
        due("an empty one takes twenty again", x.feed(0, 0, 0, 0, 0), 20);
    }

    @Says("Twenty bytes come behind the TAPE, four of each number, the highest first")
    private static void p02BytesInOrder() {
        for (int at = 0; at < 20; at++) {
            CordPens x = new CordPens();
            int[] n = {BLANKS, BLANKS, BLANKS, BLANKS, BLANKS};
            // The highest bit, too: a byte of 233 in the place of a blank.
            n[at / 4] = n[at / 4] & ~(255 << 24 - 8 * (at % 4)) | 233 << 24 - 8 * (at % 4);
            x.feed(BLANKS, BLANKS, BLANKS, BLANKS, BLANKS);
            x.feed(n[0], n[1], n[2], n[3], n[4]);
            row("byte " + at + " of the second twenty", "-1 1 " + (20 + at), x.draw(40), x.fault(0), x.fault(1));
        }
    }

    @Says("true; false: no such numbers.")
    private static void p03WallFarBeyond() {
        for (int far : new int[] {MIN, -100, -1, 0, MAX}) {
            walls("W " + far, false, far, 100, 4);
            walls("H " + far, false, 100, far, 4);
            walls("K " + far, false, 100, 100, far);
        }
        walls("the least", true, 20, 20, 2);
        walls("the greatest", true, 200, 200, 20);
    }

    /** A wall with all that a wall can lose. */
    private static CordPens laden() {
        CordPens x = sixty("line 30 40 30 16;");
        x.set(0, 7); x.set(1, 8); x.set(2, 9);
        x.other(); x.miss(0, 0, 3); x.seen(0, 1, 1); x.mark(1, 2, 3, 4); x.begin(); x.tick(5);
        return x;
    }

    @Says("Another WALL (STRETCH, WEIGHT, LIMIT stay")
    private static void p03WhatStays() {
        CordPens x = laden();
        x.feed(BLANKS, BLANKS, BLANKS, BLANKS, BLANKS);
        x.wall(60, 100, 2);
        row("STRETCH, WEIGHT, LIMIT", "7 8 9", x.count(3), x.count(4), x.count(5));
        row("PENS and the TAPE, which the document doesn't name", "1 40", x.count(9), x.feed(0, 0, 0, 0, 0));
    }

    @Says("no DRAWING, other one, MISSED, CROSSES, RUN")
    private static void p03WhatIsGone() {
        CordPens x = laden();
        x.wall(60, 100, 2);
        row("even with the same numbers: MOVES, the other one's, CROSSES", "0 0 0", x.count(6), x.count(7), x.count(8));
        row("RUN", MIN + " -1", x.run(0), x.tick(0));
        x.set(0, 0);
        draw(x, "line 30 40 30 16;");
        row("MISSED", "3000 4000", x.real(0, 0), x.real(0, 1));
        due("a CROSS of MOVE 0 is the first one", x.seen(0, 1, 1), 1);
    }

    @Says("no DRAWING, other one, MISSED, CROSSES, RUN")
    private static void p03HomeIsTheNewOne() {
        CordPens x = laden();
        x.set(0, 0);
        x.wall(40, 30, 2);
        x.begin();
        // (20, 30): the root of 4 1300 0000 is 7211, 72 STEPS each; 10000 72 72 by 4 less 2000 2000 is 8960000.
        row("the pen", "0 0 2000 2993 1", x.run(0), x.run(1), x.run(2), x.run(3), x.run(4));
        row("CLEAR of HOMES", "1 0", x.clear(40, 33, 0, 0), x.clear(40, 34, 0, 0));
    }

    @Says("STRETCH (what 0; RUN, MISSED and CROSSES are gone then)")
    private static void p04StretchTakes() {
        CordPens x = laden();
        due("the same STRETCH, too", x.set(0, 7), true);
        row("RUN, CROSSES", MIN + " -1 0", x.run(0), x.tick(0), x.count(8));
        row("no MISSED", x.place(x.look(0, 4), x.look(0, 5), 0) + "", x.real(0, 0));
        row("MOVES, the other one's, PENS stay", "2 2 1", x.count(6), x.count(7), x.count(9));
    }

    @Says("STRETCH (what 0;")
    private static void p04StretchOfAllSteps() {
        CordPens x = sixty("line 0 80 60 80;");
        x.other();
        row("without", "48 40 160 200 88", x.look(0, 3), x.look(1, 3), x.look(0, 4), x.look(0, 5), x.together(60, 0));
        x.set(0, 99);
        // 206 hang 208, 159 hang 160, 199 hang 200; one more of each is too much.
        row("of MOVES", "47 40 159 199 199 159", x.look(0, 3), x.look(1, 3), x.look(0, 4), x.look(0, 5), x.look(1, 4), x.look(1, 5));
        x.begin();
        row("at HOME", "3000 " + x.place(206, 206, 1), x.run(2), x.run(3));
        x.draw(0);
        due("of the other one's MOVES, too", x.together(60, 0), 87);
        x.set(0, 0);
        due("and back", x.together(60, 0), 88);
    }

    @Says("WEIGHT (1), LIMIT (2): true")
    private static void p04WeightAndLimitTakeNothing() {
        CordPens x = laden();
        int real = x.real(0, 0);
        row("WEIGHT", "1 1 5 " + real, x.set(1, 50) ? 1 : 0, x.count(8), x.run(1), x.real(0, 0));
        row("LIMIT", "1 1 5 " + real, x.set(2, 50) ? 1 : 0, x.count(8), x.run(1), x.real(0, 0));
    }

    @Says("false: no such ones.")
    private static void p04NoSuchOnes() {
        CordPens x = new CordPens();
        int[] what = {-1, 3, MIN, MAX};
        for (int w : what) for (int n : new int[] {0, 1, 50}) due("set(" + w + ", " + n + ")", x.set(w, n), false);
        for (int w = 0; w < 3; w++) {
            sets(w, MIN, false);
            sets(w, MAX, false);
        }
        row("all stays", "0 1 9999", x.count(3), x.count(4), x.count(5));
    }

    @Says("STRETCH (what 0; RUN, MISSED and CROSSES are gone then)")
    private static void p04RefusedStretchTakesNothing() {
        CordPens x = laden();
        int real = x.real(0, 0);
        row("100 and -1", "0 0 7 1 5 " + real, x.set(0, 100) ? 1 : 0, x.set(0, -1) ? 1 : 0, x.count(3), x.count(8), x.run(1), x.real(0, 0));
    }

    // ---- Promises 8 to 12

    @Says("NONE: not on THE WALL (0 .. 100 W, 0 .. 100 H), no such what.")
    private static void p08StepsAtTheEdges() {
        CordPens x = sixty();
        row("corners, LEFT", "0 120 200 233", x.steps(0, 0, 0), x.steps(6000, 0, 0), x.steps(0, 10000, 0), x.steps(6000, 10000, 0));
        row("corners, RIGHT", "120 0 233 200", x.steps(0, 0, 1), x.steps(6000, 0, 1), x.steps(0, 10000, 1), x.steps(6000, 10000, 1));
        row("one part beyond, X", "-1 -1", x.steps(-1, 5000, 0), x.steps(6001, 5000, 0));
        row("one part beyond, Y", "-1 -1", x.steps(3000, -1, 1), x.steps(3000, 10001, 1));
        row("far beyond", "-1 -1 -1 -1", x.steps(MIN, 0, 0), x.steps(MAX, 0, 0), x.steps(0, MIN, 1), x.steps(0, MAX, 1));
        row("no such what", "-1 -1 -1 -1", x.steps(3000, 4000, -1), x.steps(3000, 4000, 2), x.steps(3000, 4000, MIN), x.steps(3000, 4000, MAX));
    }

    @Says("PLACE of STEPS (0 .. 9999 each), what 0 X, 1 Y. Integer.MIN_VALUE: no such ones.")
    private static void p09PlaceAtTheEdges() {
        CordPens x = sixty();
        row("0 and 9999", "3000 20832166 -20826166 3000", x.place(0, 0, 0), x.place(9999, 0, 0), x.place(0, 9999, 0), x.place(9999, 9999, 0));
        row("left beyond", MIN + " " + MIN, x.place(-1, 100, 0), x.place(10000, 100, 0));
        row("right beyond", MIN + " " + MIN, x.place(100, -1, 1), x.place(100, 10000, 1));
        row("far beyond", times(4, MIN + " ").trim(), x.place(MIN, 0, 0), x.place(MAX, 0, 0), x.place(0, MIN, 0), x.place(0, MAX, 0));
        row("no such what", times(4, MIN + " ").trim(), x.place(100, 100, -1), x.place(100, 100, 2), x.place(100, 100, MIN), x.place(100, 100, MAX));
    }

    @Says("GRAIN; NONE: not on THE WALL.")
    private static void p10GrainAtTheEdges() {
        CordPens x = sixty();
        for (int[] p : new int[][] {{0, 0}, {6000, 0}, {0, 10000}, {6000, 10000}, {3000, 0}}) due("grain at " + p[0] + ", " + p[1], x.grain(p[0], p[1]) > 0, true);
        row("one part beyond", "-1 -1 -1 -1", x.grain(-1, 5000), x.grain(6001, 5000), x.grain(3000, -1), x.grain(3000, 10001));
        row("far beyond", "-1 -1 -1 -1", x.grain(MIN, 0), x.grain(MAX, 0), x.grain(0, MIN), x.grain(0, MAX));
    }

    @Says("NONE: not 0 .. W by 1 .. H, no such what.")
    private static void p11PullAtTheEdges() {
        CordPens x = sixty();
        x.set(1, 99);
        row("corners, left", "99 0 99 0", x.pull(0, 1, 0), x.pull(60, 1, 0), x.pull(0, 100, 0), x.pull(60, 100, 0));
        row("corners, right", "0 99 0 99", x.pull(0, 1, 1), x.pull(60, 1, 1), x.pull(0, 100, 1), x.pull(60, 100, 1));
        for (int what = 0; what < 3; what++) {
            row("one unit beyond, what " + what, "-1 -1 -1 -1", x.pull(-1, 50, what), x.pull(61, 50, what), x.pull(30, 0, what), x.pull(30, 101, what));
            row("far beyond, what " + what, "-1 -1 -1 -1", x.pull(MIN, 50, what), x.pull(MAX, 50, what), x.pull(30, MIN, what), x.pull(30, MAX, what));
        }
        row("no such what", "-1 -1 -1 -1", x.pull(30, 40, -1), x.pull(30, 40, 3), x.pull(30, 40, MIN), x.pull(30, 40, MAX));
    }

    @Says("How many places of whole units (0 .. W by 1 .. H) MAY be drawn.")
    private static void p12ReachFromAllToNone() {
        row("all, of the least and of the greatest WALL", (21 * 20) + " " + (201 * 200), on(20, 20, 2).reach(), on(200, 200, 20).reach());
        CordPens x = sixty();
        x.set(1, 99);
        // Of two cords that bear 99 one pulls 49 at least, whatever the place.
        x.set(2, 1);
        due("none", x.reach(), 0);
    }

    @Says("How many places of whole units (0 .. W by 1 .. H) MAY be drawn.")
    private static void p12ReachAtTheLimit() {
        // The greatest PULL of all is 495, at (10, 1): 99 20 10 by (2 20 1). Other places have less.
        Oracle o = new Oracle();
        o.wall(20, 20, 2);
        o.set(1, 99);
        o.set(2, 494);
        CordPens x = on(20, 20, 2);
        x.set(1, 99);
        row("the greatest PULL, and its place alone", "495 0 419", x.pull(10, 1, 0), o.pull(10, 1, 2), o.reach());
        x.set(2, 495);
        due("the LIMIT is the greatest PULL", x.reach(), 420);
        x.set(2, 494);
        due("the LIMIT is one less", x.reach(), 419);
        x.set(1, 1);
        due("anew with another WEIGHT", x.reach(), 420);
        x.set(1, 99);
        x.set(0, 99);
        o.set(0, 99);
        due("anew with another STRETCH", x.reach(), o.reach());
        x.set(0, 0);
        x.set(2, 9999);
        row("all, and anew on another WALL", "420 620", x.reach(), x.wall(30, 20, 2) ? x.reach() : MIN);
    }

    // ---- Promise 32

    @Says("NONE for another what.")
    private static void p32Count() {
        CordPens x = laden();
        row("0 .. 9", "60 100 2 7 8 9 2 2 1 1", x.count(0), x.count(1), x.count(2), x.count(3), x.count(4), x.count(5), x.count(6), x.count(7), x.count(8), x.count(9));
        row("another", "-1 -1 -1 -1", x.count(-1), x.count(10), x.count(MIN), x.count(MAX));
    }

    public static void main(String[] args) { runAll(WallBoundariesTest.class); }
}
