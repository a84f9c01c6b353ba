/** The boundary cases of a DRAWING's text, its FAULTS and the MOVES that come of it: terms 2, and promises 5 to 7. */
public final class TextBoundariesTest extends Checks {
    private static final String[] WORDS = {"form", "put", "line", "to", "hatch", "clip", "again"};
    /** All the S, each sign and number a TOKEN by itself between blanks. */
    private static final String EVERY = "form a 1 2 3 4 ; put a 5 6 7 ; line 1 2 3 4 ; to 1 2 ; hatch 1 2 3 4 5 ; clip 1 2 3 4 ; again 1 - 2 - 3 ( to 1 2 ; )";

    // ---- The text and its TOKENS

    @Says("A DRAWING, a TEXT: { S }.")
    private static void b1EmptyText() {
        drawn("", "");
        drawn(" \n \n", "");
        drawn("again 1 0 0 ()", "");
    }

    @Says("W: one of 1 .. 6 small letters")
    private static void b1LettersOfAName() {
        sound("form a 1 1;put a 1 1 1;");
        sound("form abcdef 1 1;put abcdef 1 1 1;");
        fault("form abcdefg 1 1;", 1, 5);
        fault("form abcdef 1 1;put abcdefg 1 1 1;", 1, 20);
        fault("form " + times(60, "x") + " 1 1;", 1, 5);
        sound("form az 1 1;form za 1 1;");
        // A name ends where its letters do, whatever comes behind.
        drawn("form ab1 1 2 2;put ab\n5 5 1;put ab7 7 1;", "6,6 7,7- 8,8 9,9-");
        fault("form ab1 1;form ab 1 1;", 3, 16);
        fault("form Ab 1 1;", 1, 5);
        fault("form aB 1 1;", 1, 6);
        fault("form a{ 1 1;", 1, 6);
        fault("form a` 1 1;", 1, 6);
        fault("form 1 1 1;", 1, 5);
    }

    @Says("none of these words")
    private static void b1WordsAreNoNames() {
        for (String word : WORDS) {
            fault("form " + word + " 1 1;", 1, 5);
            fault("form a 1 1;put " + word + " 1 1 1;", 1, 15);
            String shorter = word.substring(0, word.length() - 1);
            String other = word.substring(0, word.length() - 1) + "z";
            sound("form " + shorter + " 1 1;put " + shorter + " 1 1 1;");
            sound("form " + word + "s 1 1;put " + word + "s 1 1 1;");
            sound("form " + other + " 1 1;put " + other + " 1 1 1;");
        }
    }

    @Says("S: form W N N { N N } ';' | put W N N N ';' | line N N N N ';' | to N N ';' | hatch N N N N N ';' | clip N N N N ';' | again N M M '(' { S } ')'")
    private static void b1WordsOfS() {
        sound(EVERY);
        sound(EVERY.replace(" ;", ";").replace(" (", "(").replace("( ", "(").replace("- ", "-").replace("; ", ";"));
        for (String word : WORDS) {
            fault(word + "s 1 1;", 1, 0);
            fault(word.substring(0, word.length() - 1) + " 1 1;", 1, 0);
            fault(word.toUpperCase() + " 1 1;", 1, 0);
            fault(word.charAt(0) + " " + word.substring(1) + " 1 1;", 1, 0);
            fault("z" + word.substring(1) + " 1 1;", 1, 0);
            sound("form z" + word.substring(1) + " 1 1;put z" + word.substring(1) + " 1 1 1;");
        }
        fault("abcdefg 1 1;", 1, 0);
    }

    @Says("N: digits, 0 .. 999")
    private static void b1Numbers() {
        drawn("to 0 1;", "0,1");
        drawn("to 00000000000000000009 0000009;", "9,9");
        sound("to 999 999;");
        fault("to 1000 1;", 2, 3);
        fault("to 1 1000;", 2, 5);
        fault("to 2147483648 1;", 2, 3);
        fault("to 4294967297 1;", 2, 3);
        fault("to 18446744073709551617 1;", 2, 3);
        fault("to " + times(400, "9") + " 1;", 2, 3);
        fault("to 1/ 1;", 1, 4);
        fault("to 1: 1;", 1, 4);
    }

    @Says("M: [ - ] N.")
    private static void b1Signs() {
        drawn("again 2 -1 -2 (to 9 9;)", "9,9 8,7");
        drawn("again 2 -\n1 - 2 (to 9 9;)", "9,9 8,7");
        drawn("again 2 -0 -0 (to 9 9;)", "9,9");
        fault("again 2 --1 2 ()", 1, 9);
        fault("again 2 - (", 1, 10);
        fault("again -2 1 2 ()", 1, 6);
        for (String text : new String[] {"to -1 1;", "to 1 -1;", "line 1 1 1 -1;", "hatch 1 1 1 1 -1;", "clip 1 1 2 -2;", "form a -1 1;", "form a 1 -1;"}) {
            fault(text, 1, text.indexOf('-'));
        }
        fault("again 2 +1 1 ()", 1, 8);
    }

    @Says("Blanks 10, 32.")
    private static void b1Blanks() {
        drawn("\n to\n1 \n 2\n;\n", "1,2");
        drawn("to1 2;to3 4;", "1,2 3,4");
        for (int c = 0; c < 256; c++) {
            if (c == 10 || c == 32) drawn("to 1" + (char) c + "2;", "1,2");
            else if (c < '0' || c > '9') fault("to 1" + (char) c + "2;", 1, 4);
        }
        fault("to 1 2;" + (char) 0, 1, 7);
        fault("t o 1 2;", 1, 0);
        drawn("to 1 2 3;", "FAULT 1 at 7");
    }

    // ---- FAULTS

    @Says("1 a TOKEN that is none (a word of more than 6 letters, too) or can't stand there")
    private static void b2EachTokenThatCannotStand() {
        String[] wrong = {",", "=", "_", "A", "" + (char) 127, "" + (char) 128, "" + (char) 255, "abcdefg"};
        int at = 0;
        for (String token : EVERY.split(" ")) {
            for (String w : wrong) fault(EVERY.substring(0, at) + w + EVERY.substring(at + token.length()), 1, at);
            at += token.length() + 1;
        }
        for (String w : wrong) fault(EVERY + w, 1, EVERY.length());
    }

    @Says("1 a TOKEN that is none (a word of more than 6 letters, too) or can't stand there")
    private static void b2EachTokenOfAnotherKind() {
        int at = 0;
        String[] tokens = EVERY.split(" ");
        for (int i = 0; i < tokens.length; i++) {
            String token = tokens[i], head = EVERY.substring(0, at), tail = EVERY.substring(at + token.length());
            boolean isNumber = Character.isDigit(token.charAt(0));
            boolean isForm = i < 7;
            if (isNumber) {
                for (String w : new String[] {"x", ";", "(", ")", "to"}) {
                    // Behind whole points of a form ';' may stand, and then what follows can't.
                    if (!(isForm && i == 4 && w.equals(";"))) fault(head + w + tail, 1, at);
                }
            } else if (token.equals(";")) {
                for (String w : new String[] {"x", "(", ")", "-", "to"}) fault(head + w + tail, 1, at);
                if (!isForm) fault(head + "1" + tail, 1, at);
            } else if (token.equals("(") || token.equals(")")) {
                for (String w : new String[] {"x", "1", ";", token.equals("(") ? ")" : "(", "-"}) fault(head + w + tail, 1, at);
            }
            at += token.length() + 1;
        }
        fault("form a 1 2 ; 3 4;", 1, 13);
    }

    @Says("1 a TOKEN that is none (a word of more than 6 letters, too) or can't stand there")
    private static void b2ClosingWithoutOpen() {
        fault(")", 1, 0);
        fault("to 1 1;)", 1, 7);
        fault("again 1 0 0 ())", 1, 14);
        fault("again 1 0 0 (to 1 1)", 1, 19);
        fault("again 1 0 0 ();", 1, 14);
        fault(";", 1, 0);
        fault("to 1 1;;", 1, 7);
    }

    @Says("(the length, if more must come)")
    private static void b2TextsThatEndTooEarly() {
        int at = 0;
        boolean ended = true;
        int open = 0;
        for (String token : EVERY.split(" ")) {
            if (!ended || open > 0) {
                fault(EVERY.substring(0, at), 1, at);
                fault(EVERY.substring(0, at - 1), 1, at - 1);
                fault(EVERY.substring(0, at) + " \n ", 1, at + 3);
            } else {
                sound(EVERY.substring(0, at));
            }
            open += token.equals("(") ? 1 : token.equals(")") ? -1 : 0;
            ended = token.equals(";") || token.equals(")") || token.equals("(");
            at += token.length() + 1;
        }
        fault(times(5, "again 1 0 0 ("), 1, 65);
        fault(times(5, "again 1 0 0 (") + "))))", 1, 69);
        sound(times(5, "again 1 0 0 (") + ")))))");
    }

    @Says("(the length, if more must come)")
    private static void b2TheLengthIsThatOfTheDrawing() {
        CordPens x = sixty();
        load(x, "to 1 1;");
        row("six of twenty bytes", "-1 1 6", x.draw(6), x.fault(0), x.fault(1));
        load(x, "to 1 1;");
        due("seven", x.draw(7), 1);
        load(x, "to 1 100;");
        row("a number that goes on beyond them", "-1 1 6", x.draw(6), x.fault(0), x.fault(1));
    }

    @Says("a number beyond what is said (in form and size 0 .. 99, gap 1 .. 99, again 0 .. 99)")
    private static void b3NumbersOfForm() {
        drawn("form a 0 0 9 9;put a 1 1 1;", "1,1 10,10-");
        sound("form a 99 99 99 99;");
        fault("form a 100 1;", 2, 7);
        fault("form a 1 100;", 2, 9);
        fault("form a 1 1 100 1;", 2, 11);
        fault("form a 1 1 1 100;", 2, 13);
        fault("form a 999 1;", 2, 7);
    }

    @Says("a number beyond what is said (in form and size 0 .. 99")
    private static void b3Size() {
        drawn("form a 0 0 1 1;put a 1 1 0;", "1,1");
        drawn("form a 0 0 0 1;put a 1 1 99;", "1,1 1,100-");
        fault("form a 1 1;put a 1 1 100;", 2, 21);
        sound("form a 1 1;put a 999 999 1;");
        fault("form a 1 1;put a 1000 1 1;", 2, 17);
        fault("form a 1 1;put a 1 1000 1;", 2, 19);
    }

    @Says("gap 1 .. 99")
    private static void b3Gap() {
        fault("hatch 1 1 5 3 0;", 2, 14);
        drawn("hatch 1 1 5 3 1;", "1,1 5,1- 5,2 1,2- 1,3 5,3-");
        drawn("hatch 1 1 5 100 99;", "1,1 5,1- 5,100 1,100-");
        fault("hatch 1 1 5 100 100;", 2, 16);
        sound("hatch 999 999 999 999 1;");
        for (int i = 0; i < 4; i++) {
            String text = "hatch " + times(i, "1 ") + "1000 " + times(3 - i, "1 ") + "1;";
            fault(text, 2, 6 + 2 * i);
        }
    }

    @Says("again 0 .. 99")
    private static void b3Times() {
        drawn("again 0 1 1 (to 1 1;)", "");
        drawn("again 1 1 1 (to 1 1;)to 5 5;", "1,1 5,5");
        drawnOn(on(60, 100, 2), "again 99 0 1 (to 1 1;)", moveDown(99));
        fault("again 100 1 1 ()", 2, 6);
        fault("again 999 1 1 ()", 2, 6);
    }

    private static String moveDown(int many) {
        StringBuilder s = new StringBuilder();
        for (int y = 1; y <= many; y++) s.append(y > 1 ? " " : "").append("1,").append(y);
        return s.toString();
    }

    /** The document's "again 0 .. 99" is read as the times alone: dx and dy are M, and so N of 0 .. 999. */
    @Says("N: digits, 0 .. 999")
    private static void b3ShiftsOfAgain() {
        sound("again 1 999 -999 ()");
        sound("again 1 -999 999 ()");
        fault("again 1 1000 1 ()", 2, 8);
        fault("again 1 -1000 1 ()", 2, 9);
        fault("again 1 1 1000 ()", 2, 10);
        fault("again 1 1 - 1000 ()", 2, 12);
    }

    @Says("a number beyond what is said")
    private static void b3NumbersOfLineToAndClip() {
        sound("line 999 999 999 999;");
        for (int i = 0; i < 4; i++) {
            fault("line " + times(i, "1 ") + "1000 " + times(3 - i, "1 ") + ";", 2, 5 + 2 * i);
        }
        sound("clip 998 998 999 999;");
        fault("clip 1000 1 2 2;", 2, 5);
        fault("clip 1 1000 2 2;", 2, 7);
        fault("clip 1 1 1000 2;", 2, 9);
        fault("clip 1 1 2 1000;", 2, 11);
    }

    private static String forms(int many) {
        StringBuilder s = new StringBuilder();
        for (int i = 0; i < many; i++) s.append("form ").append((char) ('a' + i)).append(" 1 1;");
        return s.toString();
    }

    @Says("a ninth form (at form)")
    private static void b4NinthForm() {
        sound(forms(8));
        fault(forms(9), 2, 88);
        fault(forms(8) + "form", 2, 88);
        fault(forms(8) + "  form a 1 1;", 2, 90);
        fault(forms(8) + "again 0 0 0 (form z 1 1;)", 2, 101);
        sound(forms(7) + "again 0 0 0 (form z 1 1;)put z 1 1 1;");
    }

    @Says("a 13th point of one form (at its first N)")
    private static void b4ThirteenthPoint() {
        sound("form a" + times(12, " 1 1") + ";");
        fault("form a" + times(13, " 1 1") + ";", 2, 55);
        fault("form a" + times(12, " 1 1") + " 1;", 2, 55);
        fault("form a" + times(12, " 1 1") + " ;1", 1, 56);
        fault("form a" + times(11, " 1 1") + " 1;", 1, 52);
        sound("form a" + times(12, " 1 1") + ";form b" + times(12, " 1 1") + ";");
        sound("form a 1 1;");
        fault("form a;", 1, 6);
        fault("form a 1;", 1, 8);
        fault("form a 1 1 1;", 1, 12);
    }

    @Says("a 13th point of one form (at its first N)")
    private static void b4AllTwelvePointsAreDrawn() {
        drawn("form a 0 0 1 1 2 0 3 1 4 0 5 1 6 0 7 1 8 0 9 1 10 0 11 1;put a 1 1 1;",
            "1,1 2,2- 3,1- 4,2- 5,1- 6,2- 7,1- 8,2- 9,1- 10,2- 11,1- 12,2-");
        String last = forms(7) + "form z 0 0 1 1 2 0 3 1 4 0 5 1 6 0 7 1 8 0 9 1 10 0 11 1;put z 1 1 1;put a 50 50 1;";
        drawn(last, "1,1 2,2- 3,1- 4,2- 5,1- 6,2- 7,1- 8,2- 9,1- 10,2- 11,1- 12,2-");
    }

    @Says("a sixth '(' open")
    private static void b4SixthOpen() {
        String open = "again 1 0 0 (";
        drawn(times(5, open) + "to 1 1;" + times(5, ")"), "1,1");
        fault(times(6, open) + times(6, ")"), 2, 77);
        fault(times(5, open) + "again 1 0 0  (", 2, 78);
        fault(times(5, open) + "again 1 0 0 ;", 1, 77);
        sound(times(5, open) + ")" + open + ")" + times(4, ")") + open + ")");
        fault(times(5, open) + ")" + open + open, 2, 91);
    }

    @Says("a 61st S (at its word)")
    private static void b4SixtyFirstS() {
        sound(times(60, "to 1 1;"));
        fault(times(61, "to 1 1;"), 2, 420);
        fault(times(60, "to 1 1;") + "to", 2, 420);
        fault(times(60, "to 1 1;") + " \nline 1 1 1 1;", 2, 422);
        fault(times(59, "to 1 1;") + "again 1 0 0 (to 1 1;)", 2, 426);
        sound(times(58, "to 1 1;") + "again 1 0 0 (to 1 1;)");
        fault("again 0 0 0 (" + times(60, "to 1 1;") + ")", 2, 426);
        sound("again 0 0 0 (" + times(59, "to 1 1;") + ")");
        sound("form a 1 1;" + times(59, "to 1 1;"));
        fault("form a 1 1;" + times(60, "to 1 1;"), 2, 424);
        for (String word : WORDS) fault(times(60, "to 1 1;") + word, 2, 420);
    }

    @Says("3 a FORM told already (at W)")
    private static void b5ToldAlready() {
        fault("form a 1 1;form a 2 2;", 3, 16);
        fault("form a 1 1;form b 1 1;form  a 2 2;", 3, 28);
        fault("form abcdef 1 1;form abcdef", 3, 21);
        sound("form abcdef 1 1;form abcde 1 1;form bcdef 1 1;form abcdeg 1 1;");
        fault("again 0 0 0 (form a 1 1;)form a 1 1;", 3, 30);
        fault(forms(7) + "form g 1 1;", 3, 82);
        drawn("again 3 1 0 (form a 0 0 1 1;put a 1 1 1;)", "1,1 2,2- 2,1 3,2- 3,1 4,2-");
    }

    @Says("4 a FORM not told ahead (at W)")
    private static void b5NotToldAhead() {
        fault("put a 1 1 1;", 4, 4);
        fault("put a 1 1 1;form a 1 1;", 4, 4);
        fault("form a 1 1;put b 1 1 1;", 4, 15);
        fault("form abcdef 1 1;put abcde 1 1 1;", 4, 20);
        fault("form abcde 1 1;put abcdef 1 1 1;", 4, 19);
        fault("again 0 0 0 (put a 1 1 1;)", 4, 17);
        sound("again 0 0 0 (form a 1 1;)put a 1 1 1;");
        // What an earlier DRAWING told isn't told.
        CordPens x = sixty("form a 1 1;");
        row("another text", "-1 4 4", draw(x, "put a 1 1 1;"), x.fault(0), x.fault(1));
        due("nor told already", draw(x, "form a 1 1;"), 0);
    }

    @Says("5 a clip whose third isn't above its first")
    private static void b5ThirdOfClip() {
        fault("clip 5 5 5 9;", 5, 9);
        fault("clip 5 5 4 9;", 5, 9);
        sound("clip 5 5 6 9;");
        fault("clip 0 0 0 9;", 5, 9);
        fault("clip 999 5 999 9;", 5, 11);
        fault("clip 5 0 5", 5, 9);
        sound("clip 0 5 1 9;");
    }

    @Says("or fourth not above its second (at that one)")
    private static void b5FourthOfClip() {
        fault("clip 5 5 9 5;", 5, 11);
        fault("clip 5 5 9 4;", 5, 11);
        sound("clip 5 5 9 6;");
        fault("clip 0 0 9 0;", 5, 11);
        fault("clip 5 5 5 5;", 5, 9);
        fault("clip 5 999 9 999;", 5, 13);
        sound("clip 8 5 9 6;");
        sound("clip 5 8 6 9;");
    }

    @Says("NONE with a FAULT, all stays")
    private static void b6TheNextTextBeginsAnew() {
        CordPens x = sixty();
        row("five are open", "-1 1 65", draw(x, times(5, "again 1 0 0 (")), x.fault(0), x.fault(1));
        drawnOn(x, "to 1 1;", "1,1");
        draw(x, times(5, "again 1 0 0 ("));
        drawnOn(x, ")", "FAULT 1 at 0");
        draw(x, times(5, "again 1 0 0 ("));
        drawnOn(x, times(5, "again 1 0 0 (") + "to 2 2;)))))", "2,2");
        draw(x, times(60, "to 1 1;") + ",");
        drawnOn(x, times(60, "to 1 1;"), "1,1");
        draw(x, forms(8) + ",");
        drawnOn(x, forms(8), "");
    }

    @Says("FAULTS, the first along the text")
    private static void b6TheFirstAlongTheText() {
        fault("to 1000 ,;put z", 2, 3);
        fault("to , 1000;", 1, 3);
        fault("clip 5 5 4 1000;", 5, 9);
        fault("clip 1000 5 4 4;", 2, 5);
        fault("put z 1000 1 1;", 4, 4);
        fault("form a 1 1;form a 100;", 3, 16);
        fault("form a 1 1;put b", 4, 15);
        fault("again 1 0 0 (to 1000 1;", 2, 16);
        fault("put b 1 1 1;" + times(60, "to 1 1;"), 4, 4);
    }

    @Says("(of one place the least)")
    private static void b6TheLeastOfOnePlace() {
        // A number that can't stand there is 1, though it is beyond 999, too.
        fault("to 1 1 1000;", 1, 7);
        fault("1000", 1, 0);
        fault("form 1000 1;", 1, 5);
        // No S begins with such a word: 1, though there are 60.
        fault(times(60, "to 1 1;") + "tu", 1, 420);
        fault(times(60, "to 1 1;") + ";", 1, 420);
        fault(times(60, "to 1 1;") + ")", 1, 420);
        // A word that is too long is no TOKEN, so it isn't a FORM that wasn't told.
        fault("put abcdefg 1 1 1;", 1, 4);
        fault("put line 1 1 1;", 1, 4);
        // A '(' that can't stand there is 1, though five are open.
        fault(times(5, "again 1 0 0 (") + "again 1 0 (", 1, 75);
        fault(times(5, "again 1 0 0 (") + "(", 1, 65);
        // A ninth form of a name that was told: form stands ahead of it.
        fault(forms(8) + "form a 1 1;", 2, 88);
    }

    // ---- What the S do

    @Says("SHIFT is 0, 0 at first; again times dx dy: so many times, behind each one SHIFT is more by dx, dy")
    private static void c1Shift() {
        drawn("to 9 9;", "9,9");
        drawn("again 3 1 2 (to 9 9;)", "9,9 10,11 11,13");
        drawn("again 3 -1 -2 (to 9 9;)", "9,9 8,7 7,5");
        drawn("again 2 5 0 (again 3 0 1 (to 9 9;))", "9,9 9,10 9,11 14,9 14,10 14,11");
        drawn("again 2 999 0 (to 9 9;)", "9,9");
        drawn("again 2 999 999 (again 2 -999 -999 (to 9 9;))", "9,9");
        // Each S that has places is shifted.
        drawn("form a 0 0 1 0;again 2 10 20 (put a 1 1 2;line 5 1 6 1;hatch 7 2 8 2 1;to 9 3;)",
            "1,1 3,1- 5,1 6,1- 7,2 8,2- 9,3 11,21 13,21- 15,21 16,21- 17,22 18,22- 19,23");
    }

    @Says("as it was behind all")
    private static void c1ShiftBehindAll() {
        drawn("again 3 1 2 (to 9 9;)to 9 9;", "9,9 10,11 11,13 9,9");
        drawn("again 2 5 0 (again 3 0 1 (to 9 9;)to 1 1;)", "9,9 9,10 9,11 1,1 14,9 14,10 14,11 6,1");
        drawn("again 0 5 5 (to 9 9;)to 1 1;", "1,1");
        drawn("again 99 9 9 ()to 1 1;", "1,1");
    }

    @Says("LINES from point to point of x, y and size times the FORM's points")
    private static void c2Put() {
        drawn("form a 3 4;put a 1 1 1;", "");
        drawn("form a 1 2 3 4;put a 5 6 2;", "7,10 11,14-");
        drawn("form a 1 2 3 4;put a 5 6 0;", "5,6");
        drawn("form a 1 2 1 2 3 4;put a 0 0 1;", "1,2 3,4-");
        drawn("form a 99 99 0 0;put a 1 1 1;", "60,60 1,1-");
        // 999 and 99 times 99 is 10800, far beyond.
        drawn("form a 99 99 99 0;put a 999 999 99;", "");
    }

    @Says("LINES from x1 to x2 at y1, y1 and gap and so on up to y2")
    private static void c3HatchUpToY2() {
        drawn("hatch 1 5 9 5 3;", "1,5 9,5-");
        drawn("hatch 1 5 9 4 3;", "");
        drawn("hatch 1 5 9 0 1;", "");
        drawn("hatch 1 5 9 7 3;", "1,5 9,5-");
        drawn("hatch 1 5 9 8 3;", "1,5 9,5- 9,8 1,8-");
        drawn("hatch 1 5 9 9 3;", "1,5 9,5- 9,8 1,8-");
        drawn("hatch 4 5 4 8 3;", "4,5 4,8");
        drawn("hatch 1 0 9 1 1;", "9,1 1,1-");
        drawn("hatch 1 99 9 999 1;", "1,99 9,99- 9,100 1,100-");
        drawn("again 2 0 -998 (hatch 1 998 9 999 1;)", "9,1 1,1-");
    }

    @Says("hatch x1 y1 x2 y2 gap")
    private static void c3HatchAmongOthers() {
        drawn("to 8 8;hatch 1 5 9 9 2;to 3 3;", "8,8 1,5 9,5- 9,7 1,7- 1,9 9,9- 3,3");
        drawn("hatch 1 5 9 9 2;hatch 3 9 4 13 4;", "1,5 9,5- 9,7 1,7- 1,9 9,9- 3,9 4,9- 4,13 3,13-");
    }

    @Says("each second one from x2 to x1")
    private static void c3HatchTurns() {
        drawn("hatch 9 1 1 4 1;", "9,1 1,1- 1,2 9,2- 9,3 1,3- 1,4 9,4-");
        // Those above the WINDOW count for the turns.
        drawn("clip 0 3 60 100;hatch 1 1 9 4 1;", "1,3 9,3- 9,4 1,4-");
        drawn("clip 0 4 60 100;hatch 1 1 9 4 1;", "9,4 1,4-");
        drawn("clip 0 4 60 6;hatch 1 1 9 9 1;", "9,4 1,4- 1,5 9,5- 9,6 1,6-");
    }

    @Says("to: a MOVE, if it is in the WINDOW and the pen isn't there.")
    private static void c4To() {
        drawn("to 0 1;to 60 1;to 60 100;to 0 100;", "0,1 60,1 60,100 0,100");
        drawn("to 61 50;to 30 0;to 30 101;", "");
        drawn("again 2 -1 0 (to 0 50;)", "0,50");
        drawn("again 2 0 -1 (to 5 1;)", "5,1");
        drawn("clip 5 6 10 12;to 5 6;to 10 6;to 10 12;to 5 12;", "5,6 10,6 10,12 5,12");
        drawn("clip 5 6 10 12;to 4 7;to 11 7;to 7 5;to 7 13;", "");
        drawn("to 5 5;to 5 5;to 5 6;to 5 5;", "5,5 5,6 5,5");
        drawn("to 30 100;", "");
        drawn("line 1 1 5 5;to 5 5;to 1 1;", "1,1 5,5- 1,1");
    }

    @Says("as far as that is in 0 .. W by 1 .. H (all of that at first")
    private static void c5WindowAtFirst() {
        drawn("line 0 1 60 1;line 0 100 60 100;", "0,1 60,1- 0,100 60,100-");
        drawn("line 0 0 60 0;line 0 101 60 101;line 61 1 61 100;", "");
        drawn("line 30 0 30 101;line 30 50 61 50;", "30,1 30,100- 30,50 60,50-");
        drawn("again 2 -1 0 (line 0 50 0 60;)", "0,50 0,60-");
        drawnOn(on(20, 20, 2), "line 0 10 999 10;line 10 0 10 999;", "0,10 20,10- 10,1 10,20-");
        drawnOn(on(200, 200, 2), "line 0 10 999 10;line 10 0 10 999;", "0,10 200,10- 10,1 10,200-");
    }

    @Says("(all of that at first")
    private static void c5WindowAtFirstOfEachDrawing() {
        CordPens x = sixty("clip 20 20 30 30;");
        drawnOn(x, "to 0 1;to 60 100;to 0 100;to 60 1;", "0,1 60,100 0,100 60,1");
        // One that was FULL amid an again leaves neither its WINDOW nor its SHIFT.
        row("FULL in an again", "150 1", draw(x, "clip 2 2 50 50;again 99 9 9 (clip 5 5 9 9;again 99 0 0 (to 5 5;to 6 6;))"), x.fault(2));
        drawnOn(x, "to 0 1;to 60 100;to 0 100;to 60 1;", "0,1 60,100 0,100 60,1");
        row("FULL by S", "1 1", draw(x, "again 99 9 9 (clip 5 5 9 9;again 99 0 1 (to 5 5;to 5 5;))") > 0 ? 1 : 0, x.fault(2));
        drawnOn(x, "to 0 1;to 60 100;to 0 100;to 60 1;", "0,1 60,100 0,100 60,1");
        // So does one with a FAULT.
        draw(x, "clip 20 20 30 30;again 9 1 1 (to 25 25;");
        drawnOn(x, "to 0 1;to 60 100;", "0,1 60,100");
    }

    @Says("as far as that is in 0 .. W by 1 .. H")
    private static void c5WindowBeyondTheWall() {
        drawn("clip 0 0 999 999;line 0 0 0 999;line 0 50 999 50;", "0,1 0,100- 0,50 60,50-");
        drawn("clip 59 99 61 101;to 59 99;to 60 100;to 61 100;to 60 101;", "59,99 60,100");
        drawn("clip 0 0 1 1;to 0 1;to 0 0;to 1 1;", "0,1 1,1");
        drawn("clip 60 100 61 101;line 0 100 99 100;to 60 100;", "60,100");
    }

    @Says("as far as that is in 0 .. W by 1 .. H")
    private static void c5WindowWithoutAPlace() {
        drawn("clip 61 1 99 100;line 0 50 99 50;line 61 50 99 50;to 61 50;to 60 50;", "");
        drawn("clip 0 101 60 200;line 30 0 30 200;line 30 101 30 200;to 30 101;to 30 100;", "");
        drawn("clip 61 1 99 100;clip 0 1 60 100;to 5 5;", "5,5");
    }

    @Says("from then on the WINDOW is x1 .. x2 by y1 .. y2 (without SHIFT)")
    private static void c5WindowIsNotShifted() {
        drawn("again 2 10 0 (clip 5 5 9 9;line 0 6 20 6;)", "5,6 9,6-");
        drawn("again 3 1 0 (clip 5 5 9 9;to 8 8;)", "8,8 9,8");
        drawn("to 1 1;clip 5 5 9 9;to 1 2;to 5 5;", "1,1 5,5");
        drawn("clip 5 5 9 9;clip 1 1 3 3;to 5 5;to 2 2;", "2,2");
    }

    @Says("behind an again it is as it was ahead of it")
    private static void c5WindowBehindAnAgain() {
        drawn("again 1 0 0 (clip 5 5 9 9;to 1 1;)to 1 1;", "1,1");
        drawn("again 2 0 0 (to 1 1;clip 5 5 9 9;to 6 6;)to 1 1;", "1,1 6,6 1,1");
        drawn("clip 2 2 9 9;again 1 0 0 (clip 5 5 60 60;to 20 20;)to 20 20;to 2 2;", "20,20 2,2");
        drawn("again 0 0 0 (clip 5 5 9 9;)to 1 1;", "1,1");
        drawn("again 1 0 0 (clip 2 2 9 9;again 1 0 0 (clip 20 20 30 30;)to 5 5;to 25 25;)to 40 40;", "5,5 40,40");
    }

    @Says("if both ends are beyond, nothing is left")
    private static void c6BothEndsBeyond() {
        String clip = "clip 5 5 10 10;";
        drawn(clip + "line 4 7 4 8;line 11 7 11 8;line 7 4 8 4;line 7 11 8 11;", "");
        drawn(clip + "line 0 0 4 20;line 11 0 20 20;line 0 0 20 4;line 0 11 20 20;", "");
        // One side cuts it to what is beyond another one.
        drawn(clip + "line 0 6 6 0;line 9 0 20 9;", "");
        drawn(clip + "line 5 7 5 8;line 10 7 10 8;line 7 5 8 5;line 7 10 8 10;", "5,7 5,8- 10,7 10,8- 7,5 8,5- 7,10 8,10-");
    }

    @Says("if one is, it comes to the side")
    private static void c6OneEndBeyond() {
        String clip = "clip 5 5 10 10;";
        drawn(clip + "line 4 7 7 7;line 7 8 4 8;", "5,7 7,7- 7,8 5,8-");
        drawn(clip + "line 11 7 7 7;line 7 8 11 8;", "10,7 7,7- 7,8 10,8-");
        drawn(clip + "line 7 4 7 7;line 8 7 8 4;", "7,5 7,7- 8,7 8,5-");
        drawn(clip + "line 7 11 7 7;line 8 7 8 11;", "7,10 7,7- 8,7 8,10-");
        drawn(clip + "line 0 7 20 7;line 7 20 7 0;", "5,7 10,7- 7,10 7,5-");
        // Only a corner is touched: both ends come to one place.
        drawn(clip + "line 0 10 10 0;", "5,5");
    }

    @Says("if both ends are beyond, nothing is left; if one is, it comes to the side")
    private static void c6TheOtherEndIsOnTheSide() {
        String clip = "clip 5 5 10 10;";
        // What is on the side isn't beyond it: a place is left, and the pen goes there.
        drawn(clip + "line 4 7 5 7;line 5 8 4 8;", "5,7 5,8");
        drawn(clip + "line 11 7 10 7;line 10 8 11 8;", "10,7 10,8");
        drawn(clip + "line 7 4 7 5;line 8 5 8 4;", "7,5 8,5");
        drawn(clip + "line 7 11 7 10;line 8 10 8 11;", "7,10 8,10");
        drawn(clip + "line 0 6 5 9;line 15 6 10 9;line 6 0 9 5;line 6 15 9 10;", "5,9 10,9 9,5 9,10");
        drawn(clip + "line 5 9 0 6;line 10 9 15 6;line 9 5 6 0;line 9 10 6 15;", "5,9 10,9 9,5 9,10");
    }

    @Says("its other number being its own and (the other end's less its own) times (side less its first number) by (the other end's first less its own), cut towards 0")
    private static void c6CutTowards0() {
        String clip = "clip 5 5 10 10;";
        // 5 and 3 5 by 7 is 5 and 2; 8 and -3 5 by 7 is 8 less 2, from the left and from the right end.
        drawn(clip + "line 0 5 7 8;line 7 8 0 5;", "5,7 7,8- 5,7-");
        drawn(clip + "line 0 8 7 5;line 7 5 0 8;", "5,6 7,5- 5,6-");
        // The other way round at the top: 8 and -3 5 by 7.
        drawn(clip + "line 8 0 5 7;line 5 7 8 0;", "6,5 5,7- 6,5-");
        // At the right side: 9 and -2 -4 by -7 is 9 less 8 by 7; at the bottom likewise.
        drawn(clip + "line 14 9 7 7;", "10,8 7,7-");
        drawn(clip + "line 9 14 7 7;", "8,10 7,7-");
    }

    @Says("A LINE is cut by the WINDOW, side by side: left, right, top, bottom")
    private static void c6OrderOfTheSides() {
        // Another order of the sides leaves something else of the one or of the other.
        drawn("clip 5 5 10 10;line 13 3 0 18;", "10,6 7,10-");
        drawn("clip 5 5 10 10;line 6 0 12 18;", "7,5 10,10-");
    }

    @Says("What is left: if the pen isn't at its first end, a MOVE there, up; then a MOVE to the second one, down (none, if both are one place).")
    private static void c7MovesOfALine() {
        drawn("line 1 1 5 5;line 5 5 9 1;", "1,1 5,5- 9,1-");
        drawn("line 1 1 5 5;line 1 1 5 5;", "1,1 5,5- 1,1 5,5-");
        drawn("line 30 100 30 90;", "30,90-");
        drawn("line 30 100 30 100;", "");
        drawn("line 7 7 7 7;", "7,7");
        drawn("line 7 7 7 7;line 7 7 7 7;line 7 7 8 8;", "7,7 8,8-");
        // The pen is where the cut LINE begins.
        drawn("to 60 50;line 99 50 40 50;", "60,50 40,50-");
    }

    @Says("MOVES, at most 150, numbered from 0 on")
    private static void c8MovesUpTo150() {
        String full = "again 75 0 0 (to 1 1;to 2 2;)";
        CordPens x = sixty();
        row("150, and not FULL", "150 0 150", draw(x, full), x.fault(2), x.count(6));
        row("the first one, the last one", "1 2 " + NO_MOVE + " " + NO_MOVE, look(x, 0, 0), look(x, 149, 0), look(x, 150, 0), look(x, -1, 0));
        row("nothing more comes of a to where the pen is, or out of the WINDOW", "150 0", draw(x, full + "to 2 2;to 99 99;line 2 2 2 2;"), x.fault(2));
        row("149", "149 0", draw(x, "again 74 0 0 (to 1 1;to 2 2;)to 1 1;"), x.fault(2));
    }

    @Says("A 151st isn't there and ends the text (FULL)")
    private static void c8Move151() {
        String full = "again 75 0 0 (to 1 1;to 2 2;)";
        CordPens x = sixty();
        row("by to", "150 1 2", draw(x, full + "to 3 3;"), x.fault(2), x.look(149, 0));
        row("by a MOVE up of a LINE", "150 1 2 0", draw(x, full + "line 3 3 4 4;"), x.fault(2), x.look(149, 0), x.look(149, 2));
        row("by one down where the pen is", "150 1 2", draw(x, full + "line 2 2 4 4;"), x.fault(2), x.look(149, 0));
        row("the MOVE up is there, the one down isn't", "150 1 3 0", draw(x, "again 74 0 0 (to 1 1;to 2 2;)to 1 1;line 3 3 4 4;"), x.fault(2), x.look(149, 0), x.look(149, 2));
        row("by a hatch", "150 1 1", draw(x, "to 1 1;hatch 1 1 9 100 1;"), x.fault(2), x.look(149, 2));
        row("by a form", "150 1", draw(x, "form a 0 0 1 1 0 1;again 99 0 0 (put a 5 5 1;)"), x.fault(2));
        row("and its length doesn't matter", "150 1 2", draw(x, full + "line 3 3 3 3;"), x.fault(2), x.look(149, 0));
    }

    @Says("so does an S that would be the 3001st done (again is one each time it is come to)")
    private static void c8SDone3001() {
        // An again, and 29 times another one and its 99: 2901.
        String most = "again 29 0 0 (again 99 0 0 (to 30 100;))";
        CordPens x = sixty();
        row("then an again, its 97 and to: 3000", "1 0", draw(x, most + "again 97 0 0 (to 30 100;)to 1 1;"), x.fault(2));
        row("3001", "0 1", draw(x, most + "again 98 0 0 (to 30 100;)to 1 1;"), x.fault(2));
        row("the 3000th is the last of the text", "0 0", draw(x, most + "again 98 0 0 (to 30 100;)"), x.fault(2));
        row("the 3001st is in an again", "0 1", draw(x, most + "again 99 0 0 (to 30 100;)"), x.fault(2));
        row("an again is one, too", "0 1", draw(x, most + "again 98 0 0 (to 30 100;)again 0 0 0 ()"), x.fault(2));
        row("it ends the text: nothing behind it is done", "0 1", draw(x, most + "again 99 0 0 (to 30 100;)to 1 1;to 2 2;"), x.fault(2));
    }

    @Says("so does an S that would be the 3001st done (again is one each time it is come to)")
    private static void c8EveryKindOfSCounts() {
        // 2901 of to and again, then 97 of another kind and its again are 2999; then the 3000th and the 3001st.
        String most = "form z 1 1;again 29 0 0 (again 99 0 0 (to 30 100;))";
        for (String kind : new String[] {"form a 1 1;", "put z 1 1 1;", "line 99 1 99 2;", "to 99 99;", "hatch 1 5 1 4 1;", "clip 0 0 99 999;", "again 0 1 1 ()"}) {
            CordPens x = sixty();
            row("3000 with " + kind, "1 0", draw(x, most + "again 96 0 0 (" + kind + ")to 1 1;"), x.fault(2));
            row("3001 with " + kind, "0 1", draw(x, most + "again 97 0 0 (" + kind + ")to 1 1;"), x.fault(2));
        }
        CordPens x = sixty();
        row("what isn't done doesn't count", "1 0", draw(x, "again 99 0 0 (again 15 0 0 (again 0 0 0 (" + times(9, "to 1 1;") + ")))to 5 5;"), x.fault(2));
        row("99 times 31 is 3069", "0 1", draw(x, "again 99 0 0 (again 30 0 0 (again 0 0 0 (" + times(9, "to 1 1;") + ")))to 5 5;"), x.fault(2));
    }

    @Says("the pen is at HOME at first: (W by 2, cut, H)")
    private static void c9Home() {
        drawnOn(on(60, 100, 2), "to 30 100;", "");
        drawnOn(on(61, 100, 2), "to 30 100;", "");
        drawnOn(on(61, 100, 2), "to 31 100;", "31,100");
        drawnOn(on(199, 20, 2), "line 99 20 98 20;", "98,20-");
        CordPens x = sixty("to 5 5;");
        row("for each DRAWING anew", "0", draw(x, "to 30 100;"));
    }

    // ---- Promises 5 to 7

    @Says("-2, and the TAPE stays: there are not so many, n is below 0.")
    private static void p05NotSoMany() {
        CordPens x = sixty();
        row("of an empty TAPE", "-2 -2 -2 0", x.draw(1), x.draw(-1), x.draw(MAX), x.draw(0));
        load(x, "to 1 1;to 2 2;to 3 3");
        row("of 20", "-2 -2 -2 -2", x.draw(21), x.draw(-1), x.draw(MAX), x.draw(MIN));
        row("the TAPE stays, and goes on", "40", x.feed(0x3B202020, 0x20202020, 0x20202020, 0x20202020, 0x20202020));
        due("all of it", x.draw(40), 3);
    }

    @Says("The TAPE's first n bytes (it is empty then) are the DRAWING")
    private static void p05TheFirstBytes() {
        CordPens x = sixty();
        load(x, "to 1 1;to 2 2;to 3 3");
        row("none of 20", "0 -2 20", x.draw(0), x.draw(1), x.feed(0, 0, 0, 0, 0));
        x.draw(0);
        load(x, "to 1 1;to 2 2;to 3 3");
        row("14 of 20", "2 -2", x.draw(14), x.draw(1));
        StringBuilder all = new StringBuilder("to 1 1;");
        while (all.length() < 493) all.append(' ');
        all.append("to 2 2;");
        row("all 500", "2", draw(x, all.toString()));
        load(x, all.toString());
        row("499 of 500", "-1 1 499", x.draw(499), x.fault(0), x.fault(1));
    }

    @Says("(no MISSED, CROSSES, RUN then)")
    private static void p05WhatIsGone() {
        CordPens x = sixty("line 30 40 30 16;");
        x.miss(0, 0, 2); x.miss(1, 1, 2); x.seen(0, 1, 1); x.begin(); x.mark(1, 1, 1, 1); x.other();
        draw(x, "line 30 40 30 16;");
        row("MISSED", "3000 4000 3000 1600", x.real(0, 0), x.real(0, 1), x.real(1, 0), x.real(1, 1));
        row("CROSSES, RUN", "0 " + MIN + " -1", x.count(8), x.run(0), x.tick(0));
        row("PENS and the other one stay", "1 2", x.count(9), x.count(7));
        String many = "again 75 0 0 (line 30 40 30 16;)";
        draw(x, many);
        for (int m : new int[] {0, 74, 75, 148, 149}) { x.miss(m, 0, 9); x.miss(m, 1, 9); }
        draw(x, many);
        row("MISSED of all 150", "3000 4000 3000 1600", x.real(148, 0), x.real(148, 1), x.real(149, 0), x.real(149, 1));
        x.miss(0, 0, 2); x.seen(0, 1, 1); x.begin();
        row("with an empty one, too", "0 0 " + MIN, x.draw(0), x.count(8), x.run(0));
    }

    @Says("NONE with a FAULT, all stays")
    private static void p05FaultLeavesAll() {
        CordPens x = sixty("line 30 40 30 16;");
        x.miss(0, 0, 2); x.seen(0, 1, 1); x.begin(); x.tick(7);
        int real = x.real(0, 0);
        due("a FAULT at its very end", draw(x, "to 1 1;to 2 2;to 3 3;to 4 4"), -1);
        same("MOVES", moves(x), "30,40 30,16-");
        row("MISSED, CROSSES, RUN", real + " 1 7 7", x.real(0, 0), x.count(8), x.run(1), x.tick(0));
        due("but for the TAPE, as ../shared/tests has it", x.draw(1), -2);
    }

    @Says("Of the latest draw() that was not -2, what 0: its FAULT (0), 1: its place (NONE without), 2: whether it was FULL (1, 0).")
    private static void p06LatestDraw() {
        CordPens x = sixty();
        row("ahead of any", "0 -1 0", x.fault(0), x.fault(1), x.fault(2));
        draw(x, "to 1000 1;");
        row("a FAULT", "2 3 0", x.fault(0), x.fault(1), x.fault(2));
        x.draw(-1); x.draw(1);
        row("-2 leaves it", "2 3 0", x.fault(0), x.fault(1), x.fault(2));
        x.draw(0);
        row("one without", "0 -1 0", x.fault(0), x.fault(1), x.fault(2));
        draw(x, "again 76 0 0 (to 1 1;to 2 2;)");
        row("FULL", "0 -1 1", x.fault(0), x.fault(1), x.fault(2));
        x.draw(1);
        row("-2 leaves FULL", "1", x.fault(2));
        draw(x, ")");
        row("a FAULT at 0 isn't FULL", "1 0 0", x.fault(0), x.fault(1), x.fault(2));
        x.wall(20, 20, 2); x.set(0, 1);
        row("another WALL and STRETCH leave it", "1 0 0", x.fault(0), x.fault(1), x.fault(2));
        draw(x, "again 76 0 0 (to 1 1;to 2 2;)");
        draw(x, "to 1 1;");
        row("FULL no more", "0 -1 0", x.fault(0), x.fault(1), x.fault(2));
    }

    @Says("NONE for another what.")
    private static void p06AnotherWhat() {
        CordPens x = sixty();
        row("fault", "-1 -1 -1 -1", x.fault(-1), x.fault(3), x.fault(MIN), x.fault(MAX));
    }

    @Says("IndexOutOfBoundsException: no such MOVE.")
    private static void p07NoSuchMove() {
        CordPens x = sixty("line 30 40 30 16;");
        row("the last one", "30 16 1 32 68 68", x.look(1, 0), x.look(1, 1), x.look(1, 2), x.look(1, 3), x.look(1, 4), x.look(1, 5));
        row("the first one", "30 40 0 108 100 100", x.look(0, 0), x.look(0, 1), x.look(0, 2), x.look(0, 3), x.look(0, 4), x.look(0, 5));
        for (int move : new int[] {-1, 2, 150, MIN, MAX}) due("look(" + move + ", 0)", look(x, move, 0), NO_MOVE);
        x.draw(0);
        due("of none", look(x, 0, 0), NO_MOVE);
    }

    @Says("NoSuchElementException: no such what.")
    private static void p07NoSuchWhat() {
        CordPens x = sixty("line 30 40 30 16;");
        for (int what : new int[] {-1, 6, MIN, MAX}) due("look(1, " + what + ")", look(x, 1, what), NO_WHAT);
    }

    @Says("IndexOutOfBoundsException goes ahead of NoSuchElementException.")
    private static void p07BothAreWrong() {
        CordPens x = sixty("line 30 40 30 16;");
        row("both", NO_MOVE + " " + NO_MOVE, look(x, 2, 6), look(x, -1, -1));
        row("in a new object", NO_MOVE + "", look(new CordPens(), 0, 9));
    }

    public static void main(String[] args) { runAll(TextBoundariesTest.class); }
}
