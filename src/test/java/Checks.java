/** What tests are made of: it counts the answers that are not as due, prints them, and ends the test that found one. */
class Checks {
    static final int BAD = -1, FULL = -2, STATE = -3, NONE = -4;
    static final int PASS = 0, NUMBER = 1, INPUT = 2, ADD = 3, LESS = 4, TIMES = 5, SHARE = 6, PUT = 7, GET = 8;
    static final int USE = 9, SET = 10, IF = 11, GO = 12, STOP = 13;
    static final int FAILURE = 1000000007;
    static final int MIN = Integer.MIN_VALUE, MAX = Integer.MAX_VALUE;

    private static String sentence = "";
    private static int wrong = 0;

    /** The words of the document that are tested from here on; what is not as due is told with them. */
    static void says(String words) {
        sentence = "\"" + words + "\": ";
    }

    static void due(String call, long got, long want) {
        if (got != want) {
            wrong++;
            System.out.println(sentence + call + " answered " + got + ", due is " + want);
        }
    }

    static int set(int... places) {
        int bits = 0;
        for (int p : places) {
            bits |= 1 << p;
        }
        return bits;
    }

    /** A new object with these PLACES, each {kind, a, b, c}, the rest of a row left out being 0. */
    static SliceWhy program(int[]... lines) {
        SliceWhy x = new SliceWhy();
        for (int p = 0; p < lines.length; p++) {
            int[] l = java.util.Arrays.copyOf(lines[p], 4);
            due("line " + p, x.line(l[0], l[1], l[2], l[3]), p);
        }
        return x;
    }

    static int[] l(int... line) {
        return line;
    }

    static void end(String name) {
        System.out.println(name + ": " + (wrong == 0 ? "all answers are as due" : wrong + " answers are not as due"));
        if (wrong != 0) {
            System.exit(1);
        }
    }
}
