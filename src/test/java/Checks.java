import java.lang.annotation.Retention;
import java.lang.annotation.RetentionPolicy;
import java.lang.reflect.InvocationTargetException;
import java.lang.reflect.Method;
import java.util.Arrays;
import java.util.Comparator;
import java.util.NoSuchElementException;

/** What the tests share: answers that are due, texts fed and drawn, and a runner for tests that name their sentence. */
abstract class Checks {
    static final int MIN = Integer.MIN_VALUE;
    static final int MAX = Integer.MAX_VALUE;
    /** What look() threw, in place of an answer. */
    static final int NO_MOVE = 1_000_001;
    static final int NO_WHAT = 1_000_002;

    /** The sentence of the document that a test holds the class to. */
    @Retention(RetentionPolicy.RUNTIME)
    @interface Says {
        String value();
    }

    private static int checks = 0;
    private static int wrong = 0;
    static String about = "";

    static void due(String call, long got, long want) {
        checks++;
        if (got != want) tell(call + " answered " + got + ", due is " + want);
    }

    static void due(String call, boolean got, boolean want) { due(call, got ? 1 : 0, want ? 1 : 0); }

    /** Answers in a row, as a text. */
    static void row(String call, String want, int... got) {
        StringBuilder s = new StringBuilder();
        for (int g : got) s.append(s.length() > 0 ? " " : "").append(g);
        same(call, s.toString(), want);
    }

    static void same(String call, String got, String want) {
        checks++;
        if (!got.equals(want)) tell(call + " answered " + got + ", due is " + want);
    }

    private static void tell(String fault) {
        wrong++;
        System.out.println(about + ": " + fault);
    }

    static String times(int n, String text) { return text.repeat(n); }

    /** Feeds a text with blanks behind, twenty bytes each time. */
    static void load(CordPens x, String text) {
        StringBuilder s = new StringBuilder(text);
        while (s.length() % 20 != 0) s.append(' ');
        for (int i = 0; i < s.length(); i += 20) {
            int[] n = new int[5];
            for (int j = 0; j < 20; j++) n[j / 4] = n[j / 4] << 8 | s.charAt(i + j);
            x.feed(n[0], n[1], n[2], n[3], n[4]);
        }
    }

    static int draw(CordPens x, String text) { load(x, text); return x.draw(text.length()); }

    static CordPens on(int w, int h, int k) { CordPens x = new CordPens(); x.wall(w, h, k); return x; }

    static CordPens on(int w, int h, int k, String text) { CordPens x = on(w, h, k); draw(x, text); return x; }

    /** A wall where (30, 40), (0, 80), (60, 80), (30, 16) and (30, 72) are whole STEPS from both hooks. */
    static CordPens sixty() { return on(60, 100, 2); }

    static CordPens sixty(String text) { return on(60, 100, 2, text); }

    static int look(CordPens x, int move, int what) {
        try {
            return x.look(move, what);
        } catch (IndexOutOfBoundsException e) {
            return NO_MOVE;
        } catch (NoSuchElementException e) {
            return NO_WHAT;
        }
    }

    /** The MOVES as a text: where each one goes, with a stroke behind if it is down. */
    static String moves(CordPens x) {
        StringBuilder s = new StringBuilder();
        int many = x.count(6);
        for (int m = 0; m < many; m++) {
            s.append(m > 0 ? " " : "").append(x.look(m, 0)).append(',').append(x.look(m, 1)).append(x.look(m, 2) == 1 ? "-" : "");
        }
        return s.toString();
    }

    /** What a text becomes on the wall of 60 by 100: its MOVES, with FULL behind, or its FAULT. */
    static void drawn(String text, String want) { drawnOn(sixty(), text, want); }

    static void drawnOn(CordPens x, String text, String want) {
        int n = draw(x, text);
        String got = n < 0 ? "FAULT " + x.fault(0) + " at " + x.fault(1) : moves(x) + (x.fault(2) == 1 ? " FULL" : "");
        same("'" + text + "'", got, want);
    }

    static void fault(String text, int kind, int place) { drawn(text, "FAULT " + kind + " at " + place); }

    /** Only whether a text is without FAULT. */
    static void sound(String text) {
        CordPens x = sixty();
        int n = draw(x, text);
        same("'" + text + "'", n >= 0 && x.fault(0) == 0 && x.fault(1) == -1 ? "sound" : "FAULT " + x.fault(0) + " at " + x.fault(1), "sound");
    }

    /** Runs each method that names a sentence, and ends with 1 if an answer was wrong. */
    static void runAll(Class<?> tests) {
        Method[] all = tests.getDeclaredMethods();
        Arrays.sort(all, Comparator.comparing(Method::getName));
        int sentences = 0;
        for (Method m : all) {
            Says says = m.getAnnotation(Says.class);
            if (says == null) continue;
            sentences++;
            about = m.getName() + " (\"" + says.value() + "\")";
            int before = checks;
            try {
                m.setAccessible(true);
                m.invoke(null);
            } catch (InvocationTargetException e) {
                tell("threw " + e.getCause());
            } catch (ReflectiveOperationException e) {
                tell("can't be run: " + e);
            }
            if (checks == before) tell("checks nothing");
        }
        if (sentences == 0) tell("no test in " + tests);
        end(tests.getSimpleName() + ": " + sentences + " sentences, ");
    }

    static void end(String head) {
        System.out.println(head + checks + " checks, " + wrong + " wrong");
        if (wrong > 0) System.exit(1);
    }
}
