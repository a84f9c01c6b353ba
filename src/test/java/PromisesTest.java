/**
 * Each promise by itself: ordinary calls, the edges that the document names, wrong calls. Most of it hangs on a
 * wall of 60 by 100 at 2 STEPS a unit, where the places (30, 40), (0, 80) and (60, 80) are whole STEPS from both hooks.
 */
public final class PromisesTest extends Checks {
    private static void p1NewObject() {
        CordPens x = new CordPens();
        row("count", "100 100 4 0 1 9999 0 0 0 0", x.count(0), x.count(1), x.count(2), x.count(3), x.count(4), x.count(5), x.count(6), x.count(7), x.count(8), x.count(9));
        row("fault", "0 -1 0", x.fault(0), x.fault(1), x.fault(2));
        due("draw(1) of an empty TAPE", x.draw(1), -2);
        due("run without RUN", x.run(0), MIN);
        due("NONE", CordPens.NONE, -1);
    }

    private static void p2Feed() {
        CordPens x = new CordPens();
        for (int i = 1; i <= 25; i++) due("feed " + i, x.feed(538976288, 538976288, 538976288, 538976288, 538976288), 20 * i);
        due("feed beyond 500", x.feed(0, 0, 0, 0, 0), -1);
        due("nothing came", x.draw(501), -2);
        due("draw all", x.draw(500), 0);
        due("the TAPE is empty then", x.feed(0, 0, 0, 0, 0), 20);
        x = new CordPens();
        x.feed(0x746F2031, 0x20323B20, 0x20202020, 0x20202020, 0x20202020);
        due("highest byte first", x.draw(7), 1);
        row("to 1 2", "1 2", x.look(0, 0), x.look(0, 1));
    }

    private static void p3Wall() {
        CordPens x = new CordPens();
        for (int[] w : new int[][] {{20, 20, 2}, {200, 200, 20}, {20, 200, 3}}) due("wall", x.wall(w[0], w[1], w[2]), true);
        for (int[] w : new int[][] {{19, 20, 2}, {201, 20, 2}, {20, 19, 2}, {20, 201, 2}, {20, 20, 1}, {20, 20, 21}, {-20, 20, 2}}) due("wall", x.wall(w[0], w[1], w[2]), false);
        row("a wrong wall changes nothing", "20 200 3", x.count(0), x.count(1), x.count(2));
        x.set(0, 7); x.set(1, 8); x.set(2, 9);
        x.mark(0, 0, 1, 1);
        draw(x, "line 1 1 5 5;");
        x.other(); x.miss(0, 0, 3); x.seen(0, 1, 1); x.begin();
        x.feed(0, 0, 0, 0, 0);
        due("wrong wall", x.wall(1, 1, 1), false);
        row("all stays", "2 2 1", x.count(6), x.count(7), x.count(8));
        due("RUN stays", x.run(0), 0);
        due("wall", x.wall(60, 100, 2), true);
        row("behind it", "60 100 2 7 8 9 0 0 0 1", x.count(0), x.count(1), x.count(2), x.count(3), x.count(4), x.count(5), x.count(6), x.count(7), x.count(8), x.count(9));
        due("no RUN", x.tick(0), -1);
        due("the TAPE stays", x.feed(0, 0, 0, 0, 0), 40);
        x.draw(0); x.set(0, 0);
        draw(x, "line 30 40 30 16;");
        row("no MISSED", "3000 4000", x.real(0, 0), x.real(0, 1));
        x.begin();
        row("HOME", "3000 " + x.place(208, 208, 1), x.run(2), x.run(3) - x.tick(0));
    }

    private static void p4Set() {
        CordPens x = new CordPens();
        int[][] good = {{0, 0}, {0, 99}, {1, 1}, {1, 99}, {2, 1}, {2, 9999}};
        for (int[] g : good) due("set " + g[0] + " " + g[1], x.set(g[0], g[1]), true);
        int[][] bad = {{0, -1}, {0, 100}, {1, 0}, {1, 100}, {2, 0}, {2, 10000}, {3, 1}, {-1, 1}};
        for (int[] b : bad) due("set " + b[0] + " " + b[1], x.set(b[0], b[1]), false);
        row("kept", "99 99 9999", x.count(3), x.count(4), x.count(5));
        x = sixty("line 30 40 30 16;");
        x.miss(0, 0, 2); x.seen(0, 1, 1); x.begin();
        x.set(1, 5); x.set(2, 5); x.set(0, 100);
        row("WEIGHT, LIMIT and wrong ones leave them", "1 0", x.count(8), x.run(0));
        due("MISSED stays", x.real(0, 0) != 3000, true);
        due("STRETCH, even the same", x.set(0, 0), true);
        row("RUN, MISSED and CROSSES are gone", "0 " + MIN + " 3000 4000", x.count(8), x.run(0), x.real(0, 0), x.real(0, 1));
        due("LEFT", x.look(0, 4), 100);
        x.other();
        x.set(0, 99);
        row("MOVES are told by the new STRETCH", "100 34 0", x.look(0, 4), x.look(1, 3) + 2, x.look(0, 4) - x.steps(3000, 4000, 0));
        due("the other one's, too", x.together(60, 0), x.ticks(0));
    }

    private static void p5Draw() {
        CordPens x = sixty();
        load(x, "line 30 40 30 16;");
        due("too many", x.draw(21), -2);
        due("below 0", x.draw(-1), -2);
        due("the TAPE stays", x.draw(17), 2);
        due("it is empty then", x.draw(1), -2);
        x.miss(0, 0, 1); x.seen(0, 1, 1); x.begin();
        due("FAULT", draw(x, "line 1;"), -1);
        row("all stays", "2 1 0", x.count(6), x.count(8), x.run(0));
        due("MISSED stays", x.real(0, 0) != 3000, true);
        due("the TAPE doesn't", x.draw(1), -2);
        due("another", draw(x, "line 30 40 30 16;"), 2);
        row("no MISSED, CROSSES, RUN", "3000 0 " + MIN, x.real(0, 0), x.count(8), x.run(0));
        due("the first bytes alone", draw(x, "to 1 1;") + (x.feed(0x746F2032, 0x20323B00, 0, 0, 0) == 20 ? x.draw(7) : 0), 2);
        due("none", x.draw(0), 0);
    }

    /** What texts become: the terms of promise 5. */
    private static void p5Texts() {
        drawn("", "");
        drawn(" \n ", "");
        drawn("to 30 100;", "");
        drawn("to 1 2;to 1 2;to 3 4;", "1,2 3,4");
        drawn("to 60 1;to 61 1;to 60 0;to 0 100;to 0 101;", "60,1 0,100");
        drawn("to007 8;", "7,8");
        drawn("line 1 1 5 1;line 5 1 5 9;line 5 9 5 9;", "1,1 5,1- 5,9-");
        drawn("line 7 7 7 7;", "7,7");
        drawn("form a 0 0 2 4 4 0;put a 10 20 3;put a 10 20 0;", "10,20 16,32- 22,20- 10,20");
        drawn("form a 3 4;put a 1 1 1;", "");
        drawn("again 0 1 1 (form a 0 0 1 0;)put a 5 5 2;", "5,5 7,5-");
        drawn("again 2 3 0 (form a 0 0 1 0;put a 5 5 1;)", "5,5 6,5- 8,5 9,5-");
        drawn("hatch 2 3 6 8 2;", "2,3 6,3- 6,5 2,5- 2,7 6,7-");
        drawn("hatch 2 3 6 3 99;hatch 2 3 6 2 1;", "2,3 6,3-");
        drawn("hatch 6 97 2 999 2;", "6,97 2,97- 2,99 6,99-");
        drawn("clip 0 4 60 100;hatch 2 1 6 8 2;", "2,5 6,5- 6,7 2,7-");
        drawn("again 3 10 -2 (to 1 9;)to 1 9;", "1,9 11,7 21,5 1,9");
        drawn("again 2 10 0 (again 2 0 5 (to 1 9;))", "1,9 1,14 11,9 11,14");
        drawn("again 2 - 10 0 (to 15 9;)", "15,9 5,9");
        drawn("clip 5 5 10 10;line 0 7 20 7;line 20 8 0 8;", "5,7 10,7- 10,8 5,8-");
        drawn("clip 5 5 10 10;line 0 0 20 20;line 4 5 4 9;line 11 5 11 9;line 5 4 9 4;line 5 11 9 11;", "5,5 10,10-");
        drawn("clip 5 5 10 10;line 0 5 7 8;", "5,7 7,8-");
        drawn("clip 5 5 10 10;line 7 8 0 5;", "7,8 5,7-");
        drawn("clip 5 5 10 10;line 0 0 10 5;", "10,5");
        drawn("clip 10 10 20 20;line 13 17 0 12;", "13,17 10,15-");
        drawn("clip 2 2 9 9;to 1 5;to 2 2;to 9 9;to 10 9;to 9 10;", "2,2 9,9");
        drawn("clip 2 2 9 9;clip 20 20 30 30;to 5 5;to 25 25;", "25,25");
        drawn("again 2 1 0 (to 5 5;clip 5 5 5 6;)", "FAULT 5 at 29");
        drawn("again 2 1 0 (to 5 5;clip 5 5 6 6;)to 1 1;", "5,5 6,5 1,1");
        drawn("again 2 1 0 (to 5 5;clip 7 7 8 8;)to 1 1;", "5,5 1,1");
        drawn("again 2 40 0 (clip 5 5 9 9;line 0 6 20 6;)", "5,6 9,6-");
        drawn("clip 61 5 90 9;line 0 6 99 6;to 61 6;", "");
        drawn("clip 0 0 5 1;line 0 0 9 2;", "2,1");
        drawn("line 59 50 69 50;line 0 0 0 50;line 5 99 5 105;", "59,50 60,50- 0,1 0,50- 5,99 5,100-");
        drawn("again 50 0 0 (line 1 1 2 1;line 2 1 3 1;)", times(50, "1,1 2,1- 3,1- ").trim());
        drawn("again 50 0 0 (line 1 1 2 1;line 2 1 3 1;)to 3 1;to 9 9;", times(50, "1,1 2,1- 3,1- ").trim() + " FULL");
        drawn("again 75 0 0 (line 1 1 2 1;)", times(75, "1,1 2,1- ").trim());
        drawn("to 2 2;again 75 0 0 (line 1 1 2 1;)", "2,2 " + times(74, "1,1 2,1- ") + "1,1 FULL");
        // 1 again, 30 agains and 2970 to are 3001: the last of them isn't done, and nothing behind it.
        drawn("again 30 0 0 (again 99 0 0 (to 30 100;))to 5 5;to 6 6;", " FULL");
        drawn("again 29 0 0 (again 99 0 0 (to 30 100;))again 97 0 0 (to 30 100;)to 5 5;", "5,5");
        drawn("again 29 0 0 (again 99 0 0 (to 30 100;))again 98 0 0 (to 30 100;)to 5 5;", " FULL");
        drawn("again 99 0 0 (again 99 0 0 (again 99 0 0 ()))", " FULL");
    }

    private static void p6Fault() {
        CordPens x = sixty();
        draw(x, "to 1 1");
        row("a FAULT", "1 6 0 -1 -1", x.fault(0), x.fault(1), x.fault(2), x.fault(3), x.fault(-1));
        due("-2 tells nothing", x.draw(5), -2);
        due("so it stays", x.fault(0), 1);
        draw(x, "again 99 1 0 (again 99 0 1 (to 1 1;to 2 2;))");
        row("FULL", "0 -1 1", x.fault(0), x.fault(1), x.fault(2));
        draw(x, "to 1000 1;");
        row("FULL no more", "2 3 0", x.fault(0), x.fault(1), x.fault(2));
        String one = "FAULT 1 at ", two = "FAULT 2 at ";
        drawn("to 1 1  ", one + "8");
        drawn("to 1 1 \n;", "1,1");
        drawn("to 1\t1;", one + "4");
        drawn("to 1 1;;", one + "7");
        drawn("foo 1 1;", one + "0");
        drawn("To 1 1;", one + "0");
        drawn("to 1 1;" + (char) 233, one + "7");
        drawn("to 1 1;" + (char) 0, one + "7");
        drawn("1000", one + "0");
        drawn("to -1 1;", one + "3");
        drawn(")", one + "0");
        drawn("again 1 1 1 ())", one + "14");
        drawn("again 1 1 1 (", one + "13");
        drawn("again -1 1 1 ()", one + "6");
        drawn("again 1 - - 1 ()", one + "10");
        drawn("again 1 1 1 to", one + "12");
        drawn("again 1 1 1 (;)", one + "13");
        drawn("again 1 1 1 ();", one + "14");
        drawn("form 1 1 1;", one + "5");
        drawn("form a;", one + "6");
        drawn("form a 1 1 1;", one + "12");
        drawn("form abcdefg 1 1;", one + "5");
        drawn("form abcdef 1 1;", "");
        drawn("form again 1 1;", one + "5");
        drawn("put to 1 1 1;", one + "4");
        drawn("put abcdefgh 1 1 1;", one + "4");
        drawn("againn 1 1 1 ()", one + "0");
        drawn("toa 1 1;", one + "0");
        drawn("line 1 1 1 1 1;", one + "13");
        drawn("hatch 1 1 1 1;", one + "13");
        drawn("to 999 999;to 1000 1;", two + "14");
        drawn("to 99999999999999999999 1;", two + "3");
        drawn("to 1 4294967297;", two + "5");
        drawn("form a 99 99;put a 999 999 99;", "");
        drawn("form a 1 100;", two + "9");
        drawn("form a 1 1;put a 1 1000 1;", two + "19");
        drawn("hatch 1 1 1 1 100;", two + "14");
        drawn("hatch 1 1 1 1 0;", two + "14");
        drawn("hatch 60 100 60 100 99;", "60,100");
        drawn("again 99 999 -999 ()", "");
        drawn("again 1 1 -1000 ()", two + "11");
        drawn("again 1 1000 1 ()", two + "8");
        drawn(times(2, "form a 1 1;"), "FAULT 3 at 16");
        StringBuilder forms = new StringBuilder();
        for (char c = 'a'; c < 'i'; c++) forms.append("form ").append(c).append(" 1 1;");
        drawn(forms.toString(), "");
        drawn(forms + "form a 1 1;", two + "88");
        drawn("form a" + times(12, " 1 1") + ";", "");
        drawn("form a" + times(12, " 1 1") + " 1;", two + "55");
        drawn("form a" + times(12, " 1 1") + " 100 1;", two + "55");
        drawn(times(5, "again 1 0 0 (") + times(5, ")"), "");
        drawn(times(5, "again 1 0 0 (") + "again 1 0 0 (", two + "77");
        drawn(times(5, "again 1 0 0 (") + ")again 1 0 0 ()" + times(4, ")"), "");
        drawn(times(59, "to 1 1;") + "again 0 0 0 ()", "1,1");
        drawn(times(59, "to 1 1;") + "again 0 0 0 (to 1 1;)", two + "426");
        drawn(times(60, "to 1 1;") + "tu 1 1;", one + "420");
        drawn(times(60, "to 1 1;") + "form", two + "420");
        // Each number of each S at its greatest, then one beyond.
        String[][] greatest = {{"form a", "99 99"}, {"form a 1 1;put a", "999 999 99"}, {"line", "999 999 999 999"}, {"to", "999 999"},
            {"hatch", "999 999 999 999 99"}, {"clip", "998 998 999 999"}, {"again", "99 999 999"}};
        for (String[] g : greatest) {
            String end = g[0].equals("again") ? "()" : ";";
            drawn(g[0] + " " + g[1] + end, "");
            String[] numbers = g[1].split(" ");
            int at = g[0].length() + 1;
            for (int i = 0; i < numbers.length; i++) {
                String[] more = numbers.clone();
                more[i] = numbers[i].length() == 2 ? "100" : "1000";
                drawn(g[0] + " " + String.join(" ", more) + end, two + at);
                at += numbers[i].length() + 1;
            }
        }
        drawn("form az 0 0 1 0;put az 5 5 1;", "5,5 6,5-");
        drawn("form az 0 0 1 0;put aa 5 5 1;", "FAULT 4 at 20");
        drawn("form a 1 1;form b 1 1;form a 1;", "FAULT 3 at 27");
        drawn("form ab 1 1;form a 1 1;put b 1 1 1;", "FAULT 4 at 27");
        drawn("put a 1 1 1;form a 1 1;", "FAULT 4 at 4");
        drawn("form a 1 1;again 0 0 0 (put b", "FAULT 4 at 28");
        drawn("clip 5 5 4 1;", "FAULT 5 at 9");
        drawn("clip 5 5 6 4;", "FAULT 5 at 11");
        drawn("clip 5 5 1000 4;", two + "9");
        drawn("clip 5 5 6 6;", "");
        drawn("clip 5 5 ;", one + "9");
    }

    private static void p7Look() {
        CordPens x = sixty("line 0 80 60 80;");
        row("MOVE 0", "0 80 0 48 160 200", x.look(0, 0), x.look(0, 1), x.look(0, 2), x.look(0, 3), x.look(0, 4), x.look(0, 5));
        row("MOVE 1", "60 80 1 40 200 160", x.look(1, 0), x.look(1, 1), x.look(1, 2), x.look(1, 3), x.look(1, 4), x.look(1, 5));
        due("look(2, 0)", look(x, 2, 0), NO_MOVE);
        due("look(-1, 0)", look(x, -1, 0), NO_MOVE);
        due("look(2, 9)", look(x, 2, 9), NO_MOVE);
        due("look(1, 6)", look(x, 1, 6), NO_WHAT);
        due("look(1, -1)", look(x, 1, -1), NO_WHAT);
        due("look(max)", look(x, Integer.MAX_VALUE, 0), NO_MOVE);
    }

    private static void p8Steps() {
        CordPens x = sixty();
        row("whole ones", "100 100 160 200 200 160", x.steps(3000, 4000, 0), x.steps(3000, 4000, 1), x.steps(0, 8000, 0), x.steps(0, 8000, 1), x.steps(6000, 8000, 0), x.steps(6000, 8000, 1));
        row("hooks", "0 120 120 0", x.steps(0, 0, 0), x.steps(0, 0, 1), x.steps(6000, 0, 0), x.steps(6000, 0, 1));
        row("corners", "200 233 233 200", x.steps(0, 10000, 0), x.steps(0, 10000, 1), x.steps(6000, 10000, 0), x.steps(6000, 10000, 1));
        row("cut", "99 1 0", x.steps(3000, 3999, 0), x.steps(0, 50, 0), x.steps(0, 49, 0));
        row("none", "-1 -1 -1 -1 -1 -1", x.steps(-1, 0, 0), x.steps(6001, 0, 0), x.steps(0, -1, 0), x.steps(0, 10001, 0), x.steps(0, 0, 2), x.steps(0, 0, -1));
        x.set(0, 99);
        row("stretched: 101 hangs 101, 102 hangs 103; 199 hangs 200", "101 101 199", x.steps(0, 5050, 0), x.steps(0, 5100, 0), x.steps(0, 10000, 0));
        x.wall(200, 200, 20);
        row("great", "5601 5601", x.steps(20000, 20000, 0), x.steps(0, 20000, 1));
    }

    private static void p9Place() {
        CordPens x = sixty();
        row("whole ones", "3000 4000 0 8000 6000 8000", x.place(100, 100, 0), x.place(100, 100, 1), x.place(160, 200, 0), x.place(160, 200, 1), x.place(200, 160, 0), x.place(200, 160, 1));
        row("cut", "3041 4031", x.place(101, 100, 0), x.place(101, 100, 1));
        row("too short: 0 down", "3000 0 0 0", x.place(0, 0, 0), x.place(0, 0, 1), x.place(0, 120, 0), x.place(0, 120, 1));
        row("towards 0", "-50 0", x.place(0, 121, 0), x.place(0, 121, 1));
        row("great: 100 (99980001 + 14400) by 480", "3000 20832166 -20826166", x.place(9999, 9999, 0), x.place(9999, 0, 0), x.place(0, 9999, 0));
        row("none", times(6, MIN + " ").trim(), x.place(-1, 0, 0), x.place(10000, 0, 0), x.place(0, -1, 0), x.place(0, 10000, 0), x.place(0, 0, 2), x.place(0, 0, -1));
        x.set(0, 99);
        row("stretched: 102 and 101 hang 103 and 101", "3085", x.place(102, 101, 0));
    }

    private static void p10Grain() {
        CordPens x = sixty();
        due("(30, 40)", x.grain(3000, 4000), 74);
        due("a hook", x.grain(0, 0) >= 0, true);
        row("none", "-1 -1 -1 -1", x.grain(-1, 0), x.grain(6001, 0), x.grain(0, -1), x.grain(0, 10001));
        x.wall(20, 20, 2);
        due("the greatest of four", x.grain(1000, 2000), 84);
    }

    private static void p11Pull() {
        CordPens x = sixty();
        x.set(1, 99);
        row("in the middle", "61 61 1", x.pull(30, 40, 0), x.pull(30, 40, 1), x.pull(30, 40, 2));
        row("below a hook", "99 0 0 99", x.pull(0, 80, 0), x.pull(0, 80, 1), x.pull(60, 80, 0), x.pull(60, 80, 1));
        row("aside: 99 times 107 times 40 by 6000, 99 times 128 times 20 by 6000", "70 42", x.pull(20, 50, 0), x.pull(20, 50, 1));
        x.set(2, 99);
        row("just the LIMIT", "1 1", x.pull(0, 80, 2), x.pull(60, 80, 2));
        x.set(2, 98);
        row("beyond it, left and right", "0 0 1", x.pull(0, 80, 2), x.pull(60, 80, 2), x.pull(30, 40, 2));
        row("edges", "1 1", x.pull(30, 100, 0) >= 0 ? 1 : 0, x.pull(30, 1, 0) > 1000 ? 1 : 0);
        row("none", times(6, "-1 ").trim(), x.pull(-1, 1, 0), x.pull(61, 1, 0), x.pull(0, 0, 0), x.pull(0, 101, 0), x.pull(0, 1, 3), x.pull(0, 1, -1));
    }

    private static void p12Reach() {
        CordPens x = sixty();
        due("all", x.reach(), 61 * 100);
        x.set(1, 99);
        x.set(2, 1);
        due("none", x.reach(), 0);
        x.set(2, 70);
        Oracle o = new Oracle();
        o.wall(60, 100, 2); o.set(1, 99); o.set(2, 70);
        int sum = 0;
        for (int i = 0; i <= 60; i++) for (int y = 1; y <= 100; y++) sum += o.pull(i, y, 2);
        due("as pull says", x.reach(), sum);
        due("some", sum > 0 && sum < 6100, true);
        x.set(0, 99);
        x.set(2, 9999);
        due("anew as something is set", x.reach(), 6100);
        x.wall(20, 30, 2);
        due("anew as THE WALL is", x.reach(), 21 * 30);
    }

    private static void p13Sag() {
        CordPens x = sixty("line 0 80 60 80;line 30 40 30 16;");
        due("a level line: at its middle 180, 180 are (3000, 8485)", x.sag(1), 485);
        due("straight down", x.sag(3), 0);
        row("none", "-1 -1", x.sag(4), x.sag(-1));
        x = new CordPens();
        x.wall(200, 100, 2);
        draw(x, "line 100 1 100 2;");
        row("without a TICK", "0 0", x.look(1, 3), x.sag(1));
        x = sixty("line 0 80 60 80;");
        x.miss(1, 0, 9);
        due("MISSED ones don't count", x.sag(1), 485);
    }

    private static void p14Parts() {
        CordPens x = sixty("line 0 80 60 80;line 30 40 30 16;");
        row("fewer parts are worse", "1 2 3 7 37", x.parts(1, 485), x.parts(1, 484), x.parts(1, 120), x.parts(1, 60), x.parts(1, 50));
        row("in none", "-1 -1", x.parts(1, 45), x.parts(1, 0));
        due("in 64", sixty("line 6 91 9 4;").parts(1, 52), 64);
        due("in 65, so in none", sixty("line 18 21 38 93;").parts(1, 65), -1);
        due("straight down", x.parts(3, 0), 1);
        row("no such ones", "-1 -1 -1", x.parts(4, 9), x.parts(-1, 9), x.parts(1, -1));
        due("any", x.parts(1, Integer.MAX_VALUE), 1);
    }

    private static void p15Skips() {
        CordPens x = sixty("line 30 40 30 16;");
        int n = x.look(1, 3);
        due("each TICK of the MOVE that is down", x.skips(0), n);
        int between = 0;
        for (int v = 1; v < 200; v++) between = Math.max(between, x.skips(v) > 0 ? v : 0);
        int greatest = 0;
        for (int i = 1; i <= n; i++) greatest = Math.max(greatest, Math.abs(x.place(100 - i, 100 - i, 1) - x.place(101 - i, 101 - i, 1)));
        due("more than v", between, greatest - 1);
        row("ends", "0 -1", x.skips(Integer.MAX_VALUE), x.skips(-1));
        due("without MOVES", new CordPens().skips(0), 0);
        x = sixty("line 30 100 30 40;");
        row("MOVE 0 may be down", "1 108 108", x.count(6), x.ticks(1), x.skips(0));
        x = sixty("to 30 40;");
        due("up alone", x.skips(0), 0);
        x = sixty("line 0 80 60 80;");
        row("X and Y together", "40 32 14 0", x.skips(140), x.skips(160), x.skips(180), x.skips(200));
    }

    private static void p16Ticks() {
        CordPens x = sixty("line 30 40 30 16;line 0 80 60 80;");
        int up = 108 + Math.max(Math.abs(160 - 68), Math.abs(200 - 68));
        row("ticks", (up + 32 + 40) + " " + (32 + 40) + " -1 -1", x.ticks(0), x.ticks(1), x.ticks(2), x.ticks(-1));
    }

    private static void p17Miss() {
        CordPens x = sixty("line 30 40 30 16;line 30 16 30 40;");
        due("miss", x.miss(0, 0, 9) && x.miss(0, 1, 9) && x.miss(2, 1, -9), true);
        row("from then on", x.place(109, 109, 1) + " " + x.place(77, 77, 1) + " " + x.place(109, 100, 1), x.real(0, 1), x.real(1, 1), x.real(2, 1));
        due("in place of those told ahead", x.miss(0, 0, 0) && x.miss(0, 1, 0) && x.miss(2, 1, 0), true);
        row("none now", "4000 1600 4000", x.real(0, 1), x.real(1, 1), x.real(2, 1));
        String full = "again 75 0 0 (line 30 40 30 16;)";
        x = sixty(full);
        due("of the last MOVE, too", x.miss(149, 1, -9) && x.miss(149, 0, 9), true);
        due("it counts", x.real(149, 0), x.place(77, 59, 0));
        draw(x, full);
        due("it is gone with the next DRAWING", x.real(149, 0), 3000);
        x = sixty("line 30 40 30 16;line 30 16 30 40;");
        boolean[] none = {x.miss(3, 0, 1), x.miss(-1, 0, 1), x.miss(0, 2, 1), x.miss(0, -1, 1), x.miss(0, 0, 10), x.miss(0, 0, -10)};
        for (boolean b : none) due("no such ones", b, false);
    }

    private static void p18Real() {
        CordPens x = sixty("line 30 40 30 16;");
        row("as told", "3000 4000 3000 1600", x.real(0, 0), x.real(0, 1), x.real(1, 0), x.real(1, 1));
        x.miss(1, 0, 1);
        row("ahead of it", "3000 4000", x.real(0, 0), x.real(0, 1));
        row("behind it", x.place(69, 68, 0) + " " + x.place(69, 68, 1), x.real(1, 0), x.real(1, 1));
        row("no such ones", times(4, MIN + " ").trim(), x.real(2, 0), x.real(-1, 0), x.real(0, 2), x.real(0, -1));
        x = sixty("to 1 1;to 0 1;to 1 1;");
        x.miss(0, 0, -9); x.miss(1, 0, -9); x.miss(2, 0, -9);
        due("fewer than none, and no harm", x.real(2, 1) >= 0, true);
    }

    private static void p19Seen() {
        CordPens x = sixty("again 8 0 0 (line 30 40 30 16;)");
        row("rising", "1 2 -1 -1 3", x.seen(0, 5, 5), x.seen(2, 5, 5), x.seen(2, 5, 5), x.seen(1, 5, 5), x.seen(3, Integer.MIN_VALUE, Integer.MAX_VALUE));
        row("no such MOVE", "-1 -1", x.seen(16, 1, 1), x.seen(-1, 1, 1));
        for (int m = 4; m < 13; m++) due("seen", x.seen(m, 1, 1), m);
        row("there are 12", "-1 12", x.seen(13, 1, 1), x.count(8));
    }

    private static void p20Forget() {
        CordPens x = sixty("line 30 40 30 16;");
        x.seen(0, 1, 1); x.seen(1, 1, 1);
        row("forget", "2 0 0 1", x.forget(), x.count(8), x.forget(), x.seen(0, 1, 1));
    }

    private static void p21Found() {
        CordPens x = sixty("line 30 40 30 16;line 30 16 30 40;line 30 40 30 72;");
        row("without CROSSES", "0 " + MIN + " -1 -1 " + MIN, x.found(0, 0), x.found(0, 1), x.found(-1, 0), x.found(1000, 0), x.found(999, -1));
        x.seen(0, x.place(102, 99, 0), x.place(102, 99, 1));
        row("one", "3 2 -1 " + MIN, x.found(0, 0), x.found(0, 1), x.found(0, 2), x.found(0, 3));
        x.seen(1, x.place(70, 67, 0), x.place(70, 67, 1));
        x.seen(3, x.place(160, 150, 0), x.place(160, 150, 1));
        row("changes count, not what stays", "10 2 -1 2 -1 4 -6", x.found(0, 0), x.found(0, 1), x.found(0, 2), x.found(0, 3), x.found(0, 4), x.found(0, 5), x.found(0, 6));
        x.forget();
        x.seen(0, 3000, 4000);
        row("none is the least", "0 0 0", x.found(999, 0), x.found(999, 1), x.found(999, 2));
        x.forget();
        x.seen(0, x.place(107, 100, 0), x.place(107, 100, 1));
        row("7 is too much", "-2 -2 " + MIN + " -1", x.found(0, 0), x.found(0, 2), x.found(0, 3), x.found(1000, 3));
        x.forget();
        // Between the PLACES of (1, 0) and (0, -1): both cost one, the lesser l is taken.
        x.seen(0, (x.place(101, 100, 0) + x.place(100, 99, 0)) / 2, (x.place(101, 100, 1) + x.place(100, 99, 1)) / 2);
        row("of several the least l", "1 0 -1", x.found(32, 0), x.found(32, 1), x.found(32, 2));
        for (int[] lr : new int[][] {{5, 0}, {-5, 0}, {0, 5}, {0, -5}, {6, 6}, {-6, -6}, {6, -6}, {-6, 6}}) {
            x.forget();
            int left = 100 + lr[0], right = 100 + lr[1];
            x.seen(0, x.place(left, right, 0), x.place(left, right, 1));
            row("each way", (Math.abs(lr[0]) + Math.abs(lr[1])) + " " + lr[0] + " " + lr[1], x.found(0, 0), x.found(0, 1), x.found(0, 2));
        }
        x.forget();
        x.seen(0, Integer.MIN_VALUE, Integer.MAX_VALUE);
        due("far away", x.found(999, 0), -2);
    }

    private static void p22Mended() {
        CordPens x = sixty("line 30 40 30 16;line 30 16 30 40;");
        x.miss(0, 0, 2); x.miss(0, 1, -1); x.miss(2, 1, 1);
        row("without CROSSES as it is", x.real(1, 0) + " " + x.real(1, 1), x.mended(1, 0, 0), x.mended(1, 0, 1));
        x.seen(1, x.real(1, 0), x.real(1, 1));
        row("ahead of the CROSS and at it", x.real(0, 0) + " " + x.real(1, 0), x.mended(0, 0, 0), x.mended(1, 0, 0));
        row("behind it only what came later", x.place(100, 101, 0) + " " + x.place(100, 101, 1), x.mended(2, 0, 0), x.mended(2, 0, 1));
        row("no such ones", times(6, MIN + " ").trim(), x.mended(3, 0, 0), x.mended(-1, 0, 0), x.mended(2, -1, 0), x.mended(2, 1000, 0), x.mended(2, 0, 2), x.mended(2, 0, -1));
        x.seen(2, 0, 0);
        row("nothing fits", MIN + " " + MIN, x.mended(2, 0, 0), x.mended(0, 0, 1));
    }

    private static void p23Other() {
        CordPens x = sixty("line 30 40 30 16;");
        row("other", "0 2 2", x.count(7), x.other(), x.count(7));
        draw(x, "to 5 5;");
        row("it is kept", "1 2", x.count(6), x.count(7));
        x.set(0, 5);
        due("even then", x.count(7), 2);
        draw(x, "");
        row("none again", "0 0", x.other(), x.count(7));
    }

    private static void p24Clear() {
        CordPens x = sixty("line 30 40 30 16;");
        x.other();
        // The other one's left cord at (60, 0) .. (90, 100), the pens at (30, 100): 5400 by the root of 10900 is 51.
        row("HOMES", "1 1", x.clear(60, 0, 0, 0), x.clear(60, 50, 0, 0));
        // At V 30 it is (30, 0) .. (60, 100): 3000 by the root of 10900 is 28.7.
        row("nearer", "1 0", x.clear(30, 28, 0, 0), x.clear(30, 29, 0, 0));
        // (1, 0) .. (31, 40) and the pen at (30, 40): 40 by the root of 2500 is 0.8.
        row("almost on it", "1 0", x.clear(1, 0, 1, 1), x.clear(1, 1, 1, 1));
        // (20, 0) .. (50, 40) and the pen at (30, 16): 80 by 50 is 1.6.
        row("between a cord's ends", "1 0", x.clear(20, 1, 2, 1), x.clear(20, 2, 2, 1));
        row("no such ones", times(8, "-1 ").trim(), x.clear(0, 0, 0, 0), x.clear(61, 0, 0, 0), x.clear(1, -1, 0, 0), x.clear(1, 51, 0, 0), x.clear(1, 0, -1, 0), x.clear(1, 0, 3, 0), x.clear(1, 0, 0, -1), x.clear(1, 0, 0, 3));
        x = sixty("to 0 50;");
        x.other();
        draw(x, "to 50 50;");
        // The other one's pen at (1, 50) is 48.04 from the straight line through (60, 0) and (50, 50), but 49 from its cord.
        row("a cord ends at the pen", "1 0", x.clear(1, 49, 1, 1), x.clear(1, 50, 1, 1));
        x = sixty("to 60 50;");
        x.other();
        draw(x, "to 0 5;");
        // The pen at (0, 5) is 23 from the straight line through (30, 0) and (90, 50), but 30.4 from the hook.
        row("and at the hook", "1 0", x.clear(30, 30, 1, 1), x.clear(30, 31, 1, 1));
        x = sixty("to 48 14;");
        x.other();
        draw(x, "to 30 40;");
        due("both just 50 from the hook that they share", x.clear(60, 50, 1, 1), 1);
        x = sixty("to 60 80;");
        x.other();
        draw(x, "to 30 60;");
        // 3600 by 100 from the cord from (30, 0) to (90, 80).
        row("just so far", "1 0", x.clear(30, 36, 1, 1), x.clear(30, 37, 1, 1));
        x = sixty("to 50 50;");
        x.other();
        draw(x, "to 30 60;");
        // The pens at (30, 60) and (80, 50): the second is 2700 by the root of 4500 (40.2) from the cord from (60, 0),
        // the first is 3000 by the root of 5000 (42.4) from the one from (30, 0).
        row("the other one's pen from the right cord", "1 0", x.clear(30, 40, 1, 1), x.clear(30, 41, 1, 1));
    }

    private static void p25Together() {
        CordPens x = sixty("line 30 40 30 16;");
        x.other();
        due("at once", x.together(60, 0), 108 + 32);
        row("no such ones", "-1 -1 -1 -1", x.together(0, 0), x.together(61, 0), x.together(1, -1), x.together(1, 51));
        due("HOMES are too near", x.together(1, 50), -2);
        draw(x, "");
        due("the other one alone", x.together(60, 0), 140);
        x = sixty("again 75 0 0 (line 30 40 30 16;)");
        x.other();
        due("150 of each", x.together(60, 0), 108 + 149 * 32);
        due("without MOVES, and not CLEAR", new CordPens().together(1, 50), -2);
        x = new CordPens();
        x.wall(40, 40, 2);
        draw(x, "line 5 30 35 30;");
        x.other();
        int sum = x.ticks(0);
        due("wide apart at once", x.together(40, 0), sum);
        int waiting = x.together(20, 5), apart = x.together(20, 9);
        due("near by they can wait or can't", waiting >= sum && (apart >= waiting || apart == -2), true);
    }

    private static void p26Joint() {
        CordPens x = sixty("line 10 5 20 5;line 20 9 10 8;line 20 30 20 40;");
        x.other();
        draw(x, "line 30 10 25 7;line 30 50 25 50;line 30 6 1 6;");
        // At 30 with V 20: the first one's 6 10 50, the other one's 5 8; at 30 with V 10: its 5 9 30 40.
        row("V 20", "2 3 2 1", x.joint(20, 30, 0), x.joint(20, 30, 1), x.joint(20, 30, 2), x.joint(20, 30, 3));
        row("V 10", "3 22 20 1", x.joint(10, 30, 0), x.joint(10, 30, 1), x.joint(10, 30, 2), x.joint(10, 30, 3));
        row("nothing there", "0 0 0 0", x.joint(10, 3, 0), x.joint(10, 3, 1), x.joint(10, 3, 2), x.joint(10, 3, 3));
        row("any x", "0 0", x.joint(10, Integer.MIN_VALUE, 3), x.joint(10, Integer.MAX_VALUE, 3));
        row("no such ones", "-1 -1 -1 -1", x.joint(0, 30, 0), x.joint(61, 30, 0), x.joint(10, 30, 4), x.joint(10, 30, -1));
        draw(x, "to 30 5;to 30 6;line 30 7 30 8;line 30 8 31 9;");
        row("MOVES that are up don't count, a corner does twice", "3 25 22", x.joint(10, 30, 0), x.joint(10, 30, 1), x.joint(10, 30, 2));
        // 150 MOVES that are down from HOME on, and 149 behind one that is up.
        String fromHome = "again 75 0 0 (line 30 100 30 99;line 30 99 30 100;)", fromTwenty = "again 75 0 0 (line 20 90 20 99;line 20 99 20 90;)";
        x = sixty(fromTwenty);
        x.other();
        draw(x, fromHome);
        row("all ends, the first one's more", "298 " + (149 * 9 + 148) + " 9 2", x.joint(10, 30, 0), x.joint(10, 30, 1), x.joint(10, 30, 2), x.joint(10, 30, 3));
        x.other();
        draw(x, fromTwenty.replace("20", "40"));
        row("all ends, the other one's more", "298 " + (149 * 9 + 148) + " 9 2", x.joint(10, 40, 0), x.joint(10, 40, 1), x.joint(10, 40, 2), x.joint(10, 40, 3));
    }

    private static void p27Mark() {
        CordPens x = new CordPens();
        for (int i = 1; i <= 20; i++) due("mark", x.mark(Integer.MIN_VALUE, Integer.MAX_VALUE, i, -i), i);
        row("there are 20", "-1 20", x.mark(0, 0, 0, 0), x.count(9));
        x.wall(30, 30, 3);
        due("they stay", x.count(9), 20);
    }

    private static void p28Offset() {
        CordPens x = new CordPens();
        row("without PENS", "-20 -20 0", x.offset(0, 0), x.offset(0, 1), x.offset(0, 2));
        x.mark(1, 1, 21, -19);
        row("the farthest", "20 -20 1", x.offset(0, 0), x.offset(0, 1), x.offset(0, 2));
        x.mark(1, 1, 22, -19);
        row("just beyond", "20 -20 1", x.offset(0, 0), x.offset(0, 1), x.offset(0, 2));
        row("with DOUBT", "20 -20 2", x.offset(1, 0), x.offset(1, 1), x.offset(1, 2));
        x.mark(0, 0, 5, 5); x.mark(7, 7, 12, 12); x.mark(0, 0, 5, 8);
        row("most", "5 5 2", x.offset(0, 0), x.offset(0, 1), x.offset(0, 2));
        row("of several the least", "3 6 3", x.offset(2, 0), x.offset(2, 1), x.offset(2, 2));
        CordPens low = new CordPens();
        low.mark(0, 0, -20, 20);
        row("dy, too, goes to 20", "-20 20 1", low.offset(0, 0), low.offset(0, 1), low.offset(0, 2));
        x.mark(Integer.MIN_VALUE, 0, Integer.MAX_VALUE, 0);
        due("far apart", x.offset(99, 2), 5);
        row("no such ones", times(4, MIN + " ").trim(), x.offset(-1, 0), x.offset(100, 0), x.offset(0, 3), x.offset(0, -1));
    }

    private static void p29Begin() {
        CordPens x = sixty("line 30 40 30 16;");
        x.begin();
        row("at HOME", "0 0 3000 " + x.place(208, 208, 1) + " 0", x.run(0), x.run(1), x.run(2), x.run(3), x.run(4));
        x.tick(120);
        x.begin();
        row("anew", "0 0 0", x.run(0), x.run(1), x.tick(0));
        x = sixty();
        x.begin();
        row("without MOVES", "0 0 3000 1", x.run(0), x.run(1), x.run(2), x.run(4));
    }

    private static void p30Tick() {
        CordPens x = sixty("line 30 40 30 16;");
        due("no RUN", x.tick(1), -1);
        x.begin();
        row("ticks", "0 1 108 109 139 140 140", x.tick(0), x.tick(1), x.tick(107), x.tick(1), x.tick(30), x.tick(1), x.tick(100000));
        x.begin();
        x.tick(5);
        row("no such number", "-1 -1 5", x.tick(-1), x.tick(100001), x.tick(0));
        due("all at once", x.tick(100000), 140);
    }

    private static void p31Run() {
        CordPens x = sixty("line 0 80 60 80;");
        due("no RUN", x.run(0), MIN);
        x.begin();
        x.tick(48 + 20);
        row("amid MOVE 1", "1 20 3000 8485 0", x.run(0), x.run(1), x.run(2), x.run(3), x.run(4));
        x.tick(19);
        row("ahead of its end", "1 39 0", x.run(0), x.run(1), x.run(4));
        x.tick(1);
        row("at the end", "2 0 6000 8000 1", x.run(0), x.run(1), x.run(2), x.run(3), x.run(4));
        row("no such what", MIN + " " + MIN, x.run(5), x.run(-1));
        x.miss(1, 0, 3);
        row("where it truly is", x.place(203, 160, 0) + " " + x.place(203, 160, 1), x.run(2), x.run(3));
        x.begin();
        x.tick(47);
        row("ahead of the MOVE that misses", x.place(161, 201, 0) + "", x.run(2));
        x.tick(1);
        row("at once as the one ahead ends", "1 0 " + x.place(163, 200, 0), x.run(0), x.run(1), x.run(2));
        x = new CordPens();
        x.wall(200, 100, 2);
        draw(x, "to 100 1;to 100 2;to 100 3;");
        row("MOVES without TICKS", "0 0", x.look(1, 3), x.look(2, 3));
        x.begin();
        x.tick(x.look(0, 3));
        row("are behind at once", "3 0 1", x.run(0), x.run(1), x.run(4));
    }

    private static void p32Count() {
        CordPens x = new CordPens();
        x.wall(60, 100, 2); x.set(0, 3); x.set(1, 4); x.set(2, 5);
        draw(x, "line 30 40 30 16;"); x.other(); draw(x, "to 1 1;");
        x.seen(0, 1, 1); x.mark(1, 1, 1, 1); x.mark(1, 1, 1, 1);
        row("count", "60 100 2 3 4 5 1 2 1 2 -1 -1", x.count(0), x.count(1), x.count(2), x.count(3), x.count(4), x.count(5), x.count(6), x.count(7), x.count(8), x.count(9), x.count(10), x.count(-1));
    }

    public static void main(String[] args) {
        Runnable[] all = {PromisesTest::p1NewObject, PromisesTest::p2Feed, PromisesTest::p3Wall, PromisesTest::p4Set, PromisesTest::p5Draw, PromisesTest::p5Texts,
            PromisesTest::p6Fault, PromisesTest::p7Look, PromisesTest::p8Steps, PromisesTest::p9Place, PromisesTest::p10Grain, PromisesTest::p11Pull,
            PromisesTest::p12Reach, PromisesTest::p13Sag, PromisesTest::p14Parts, PromisesTest::p15Skips, PromisesTest::p16Ticks, PromisesTest::p17Miss,
            PromisesTest::p18Real, PromisesTest::p19Seen, PromisesTest::p20Forget, PromisesTest::p21Found, PromisesTest::p22Mended, PromisesTest::p23Other,
            PromisesTest::p24Clear, PromisesTest::p25Together, PromisesTest::p26Joint, PromisesTest::p27Mark, PromisesTest::p28Offset, PromisesTest::p29Begin,
            PromisesTest::p30Tick, PromisesTest::p31Run, PromisesTest::p32Count};
        String[] names = {"1", "2", "3", "4", "5", "5 (texts)", "6", "7", "8", "9", "10", "11", "12", "13", "14", "15", "16", "17", "18", "19", "20", "21",
            "22", "23", "24", "25", "26", "27", "28", "29", "30", "31", "32"};
        for (int i = 0; i < all.length; i++) {
            about = "promise " + names[i];
            all[i].run();
        }
        end("PromisesTest: ");
    }
}
