/** Promises 8 to 11 and 19, and what each KIND does: RUNS, what they tell and leave. */
public final class RunTest extends Checks {
    public static void main(String[] args) {
        arithmetic();
        share();
        items();
        itemsOfEachRow();
        rowsByInputThree();
        globals();
        failingGlobals();
        jumps();
        spent();
        spentOfASlice();
        slicesGoByTheRest();
        sawAndLeft();
        wrongRuns();
        same();
        sameLeavesTheLatestRun();
        end("RunTest");
    }

    private static int calculated(int kind, int left, int right) {
        SliceWhy x = program(l(NUMBER, 6, left), l(NUMBER, 7, right), l(kind, 5, 6, 7));
        due("run", x.run(NONE, 2), 0);
        due("seen", x.seen(), 1);
        due("what it told and what it set", x.saw(0), x.left(7));
        return x.left(7);
    }

    private static void arithmetic() {
        due("2 + 3", calculated(ADD, 2, 3), 5);
        due("max + 1", calculated(ADD, MAX, 1), MIN);
        due("7 * -3", calculated(TIMES, 7, -3), -21);
        due("65537 * 65537", calculated(TIMES, 65537, 65537), 131073);
        due("1 < 2", calculated(LESS, 1, 2), 1);
        due("2 < 2", calculated(LESS, 2, 2), 0);
        due("2 < 1", calculated(LESS, 2, 1), 0);
        due("min < max", calculated(LESS, MIN, MAX), 1);
        due("max < min", calculated(LESS, MAX, MIN), 0);
    }

    private static void share() {
        due("7 / 2", calculated(SHARE, 7, 2), 3);
        due("-7 / 2", calculated(SHARE, -7, 2), -3);
        due("7 / -2", calculated(SHARE, 7, -2), -3);
        due("min / -1", calculated(SHARE, MIN, -1), MIN);
        SliceWhy x = program(l(NUMBER, 1, 9), l(SHARE, 1, 1, 0), l(NUMBER, 1, 4));
        due("9 / 0", x.run(NONE, 1), 1);
        due("place", x.left(1), 1);
        due("steps", x.left(0), 2);
        due("seen", x.seen(), 1);
        due("saw", x.saw(0), FAILURE);
        due("nothing is set", x.left(3), 9);
        due("9 / 0 once more", x.run(NONE, 2), 1);
        due("the place behind is not come to", x.seen(), 0);
    }

    /** GETS from each item from -1 to 8 what was PUT there by number & 7. */
    private static void items() {
        for (int item = -1; item <= 8; item++) {
            SliceWhy x = program(l(INPUT, 0, 0), l(NUMBER, 1, 50), l(PUT, 1, 0, 2),
                l(NUMBER, 3, item & 7), l(GET, 4, 3, 2), l(NUMBER, 3, (item + 1) & 7),
                l(GET, 5, 3, 2));
            x.input(0, item);
            due("run", x.run(NONE, 2), 0);
            due("PUT tells what it set", x.saw(0), 50);
            due("item " + item, x.left(6), 50);
            due("the item behind " + item, x.left(7), 0);
            x.run(NONE, 4);
            due("GET tells what it set", x.saw(0), 50);
            x.change(2, PASS, 0, 0, 0);
            x.run(NONE, 4);
            due("items are 0 in the next run", x.saw(0), 0);
        }
    }

    /** PUTS one number into each item of each ROW, and finds it there alone, and nowhere in the next RUN. */
    private static void itemsOfEachRow() {
        for (int put = 0; put < 32; put++) {
            SliceWhy x = program(l(INPUT, 0, 0), l(INPUT, 1, 1), l(NUMBER, 2, 50),
                l(PUT, 2, 0, 0), l(GET, 3, 1, 1));
            x.points(0, 1 << put / 8);
            x.input(0, put % 8);
            for (int get = 0; get < 32; get++) {
                dueItem(x, put, get);
            }
            dueItem(x, put, put);
            x.change(3, PASS, 0, 0, 0);
            x.run(NONE, 4);
            due("item " + put + " in the next run", x.saw(0), 0);
        }
    }

    private static void dueItem(SliceWhy x, int put, int get) {
        x.points(1, 1 << get / 8);
        x.input(1, get % 8);
        x.run(NONE, 4);
        due("item " + get + " with " + put + " put", x.saw(0), put == get ? 50 : 0);
    }

    private static void rowsByInputThree() {
        checkRow(1, MAX, 0);
        checkRow(8, 5, 3);
        checkRow(5, 0, 0);
        checkRow(5, 1, 2);
        checkRow(5, 2, 0);
        checkRow(10, 3, 3);
        checkRow(14, 0, 1);
        checkRow(14, 1, 2);
        checkRow(14, 5, 3);
        checkRow(15, 7, 3);
        checkRow(15, -2, 2);
        // Without its sign's bit -1 is 2147483647, which leaves 1; the lowest int is 0 then.
        checkRow(11, -1, 1);
        checkRow(11, MIN, 0);
        checkRow(11, -3, 3);
        checkRow(11, MAX, 1);
    }

    /** NAME 0 may be of rows; NAMES 1, 2, 3 are of ROWS 1, 2, 3, and of ROW 0 in a second run. */
    private static void checkRow(int rows, int choice, int row) {
        SliceWhy x = program(l(NUMBER, 0, 1), l(PUT, 0, 0, 0), l(GET, 1, 0, 1),
            l(GET, 2, 0, 2), l(GET, 3, 0, 3));
        x.input(3, choice);
        x.points(0, rows);
        x.points(1, 2);
        x.points(2, 4);
        x.points(3, 8);
        x.run(NONE, 1);
        for (int other = 1; other < 4; other++) {
            String call = "rows " + rows + ", input 3 " + choice + ", row " + other;
            due(call, x.left(2 + other), row == other ? 1 : 0);
        }
        x.points(1, 1);
        x.run(NONE, 1);
        due("rows " + rows + ", input 3 " + choice + ", row 0", x.left(3), row == 0 ? 1 : 0);
    }

    private static void globals() {
        SliceWhy x = program(l(USE, 0, 3), l(NUMBER, 1, 6), l(SET, 1, 3),
            l(USE, 2, 3));
        x.start(3, -4, false);
        x.run(NONE, 0);
        due("USE tells", x.saw(0), -4);
        x.run(NONE, 2);
        due("SET tells", x.saw(0), 6);
        due("GLOBAL as set", x.left(4), 6);
    }

    private static void failingGlobals() {
        SliceWhy x = program(l(NUMBER, 0, 3), l(SET, 0, 1), l(USE, 0, 1));
        x.start(1, 5, true);
        due("SET fails", x.run(NONE, 1), 1);
        due("place", x.left(1), 1);
        due("saw", x.saw(0), FAILURE);
        x.change(1, SET, 0, 2, 0);
        due("USE fails", x.run(NONE, 2), 1);
        due("place", x.left(1), 2);
        due("steps", x.left(0), 3);
        due("saw", x.saw(0), FAILURE);
        due("nothing is set", x.left(2), 3);
        x.start(1, 5, false);
        due("not any more", x.run(NONE, 2), 0);
        due("no place failed", x.left(1), NONE);
    }

    private static void jumps() {
        SliceWhy x = program(l(INPUT, 0, 0), l(IF, 0, 4), l(NUMBER, 1, 1),
            l(GO, 0, 6), l(NUMBER, 1, 2), l(STOP), l(PASS),
            l(GO, 0, 24), l(NUMBER, 1, 3));
        x.run(NONE, 1);
        due("IF tells 1 where it is 0", x.saw(0), 1);
        due("it goes", x.left(3), 2);
        due("STOP ends it", x.left(0), 4);
        int[] toldZero = {3, 6, 7};
        x.input(0, -1);
        x.run(NONE, 1);
        due("IF tells 0 where it is not 0", x.saw(0), 0);
        due("seen", x.seen(), 1);
        due("it goes on behind", x.left(3), 1);
        due("steps", x.left(0), 6);
        for (int p : toldZero) {
            x.run(NONE, p);
            due("seen " + p, x.seen(), 1);
            due("saw " + p, x.saw(0), 0);
        }
        x.input(0, 0);
        x.run(NONE, 5);
        due("STOP is seen", x.seen(), 1);
        due("STOP tells", x.saw(0), 0);
    }

    /** INPUT 0 of 33 makes 3 * 33 + 1 STEPS to PLACE 5. */
    private static SliceWhy countdown() {
        return program(l(INPUT, 0, 0), l(NUMBER, 1, -1), l(ADD, 0, 0, 1),
            l(IF, 0, 5), l(GO, 0, 2));
    }

    private static void spent() {
        SliceWhy x = countdown();
        x.input(0, 33);
        due("100 steps, then the end", x.run(NONE, 2), 0);
        due("steps", x.left(0), 100);
        due("seen", x.seen(), 33);
        due("saw the first", x.saw(0), 32);
        due("saw the last", x.saw(32), 0);
        due("saw behind", x.saw(33), 0);
        x.line(PASS, 0, 0, 0);
        due("one more is come to", x.run(NONE, 5), 2);
        due("steps", x.left(0), 100);
        due("it was not done", x.seen(), 0);
        due("no place failed", x.left(1), NONE);
        due("register at the end", x.left(2), 0);
        x.change(5, SHARE, 0, 0, 0);
        due("nor does it fail", x.run(NONE, 5), 2);
        SliceWhy y = program(l(GO, 0, 0));
        due("it turns on one place", y.run(NONE, 0), 2);
        due("seen", y.seen(), 100);
        due("steps", y.left(0), 100);
    }

    private static void spentOfASlice() {
        SliceWhy x = countdown();
        x.line(NUMBER, 5, 5, 0);
        x.input(0, 33);
        due("the whole", x.run(NONE, 2), 2);
        due("the end behind places that are gone by", x.run(2, 2), 0);
        due("steps", x.left(0), 100);
        x.input(0, 34);
        due("spent", x.run(2, 2), 2);
    }

    private static void slicesGoByTheRest() {
        SliceWhy x = program(l(NUMBER, 0, 5), l(NUMBER, 1, 6), l(ADD, 2, 0, 0),
            l(ADD, 3, 1, 1));
        due("run of BACK of 2", x.run(2, 2), 0);
        due("steps", x.left(0), 2);
        due("saw", x.saw(0), 10);
        due("what is not in it is not set", x.left(3), 0);
        x.run(2, 3);
        due("a watched place that is gone by is not come to", x.seen(), 0);
        due("nor does it tell", x.saw(0), 0);
        x.run(3, 3);
        due("saw", x.saw(0), 12);
        due("what is not in it is not set", x.left(2), 0);
    }

    private static void sawAndLeft() {
        SliceWhy x = program(l(NUMBER, 0, -4), l(NUMBER, 7, MIN), l(NUMBER, 0, -1));
        x.run(NONE, 0);
        due("saw(0)", x.saw(0), -4);
        due("saw(-1)", x.saw(-1), 0);
        due("saw(1)", x.saw(1), 0);
        due("saw(max)", x.saw(MAX), 0);
        due("saw(min)", x.saw(MIN), 0);
        due("left(0)", x.left(0), 3);
        due("left(2)", x.left(2), -1);
        due("left(3)", x.left(3), 0);
        due("left(9)", x.left(9), MIN);
        due("left(10)", x.left(10), 0);
        due("left(-1)", x.left(-1), 0);
        due("left(max)", x.left(MAX), 0);
        due("left(min)", x.left(MIN), 0);
    }

    private static void wrongRuns() {
        SliceWhy x = program(l(NUMBER, 0, 9), l(SHARE, 1, 0, 1));
        x.run(NONE, 0);
        int[][] wrong = {{-4, 2}, {-4, -1}, {2, 0}, {-1, 0}, {-2, 0}, {-3, 0}, {-5, 0}, {0, -4}, {MAX, 0}, {0, MIN}, {0, MAX}};
        for (int[] w : wrong) {
            due("run(" + w[0] + ", " + w[1] + ")", x.run(w[0], w[1]), BAD);
            due("the latest run stays", x.seen(), 1);
            due("what it told too", x.saw(0), 9);
            due("where it failed too", x.left(1), 1);
        }
        due("count(2)", x.count(2), 1);
    }

    private static void same() {
        SliceWhy x = countdown();
        x.input(0, 5);
        due("same(2)", x.same(2), 1);
        due("same(-1)", x.same(-1), BAD);
        due("same(5)", x.same(5), BAD);
        x.input(0, 34);
        due("the whole is spent", x.same(2), 2);
        x.input(0, 33);
        due("the whole is not spent", x.same(2), 1);
        x.line(NUMBER, 5, 5, 0);
        due("the whole alone is spent", x.same(2), 2);
        sameWhereTheWholeFailsOrTurns();
    }

    private static void sameWhereTheWholeFailsOrTurns() {
        SliceWhy x = program(l(NUMBER, 0, 1), l(SHARE, 1, 0, 2), l(ADD, 3, 0, 0));
        due("the whole fails before it", x.same(2), 1);
        due("so does the slice", x.run(2, 2), 1);
        due("it fails itself", x.same(1), 1);
        x.change(1, GO, 0, 1, 0);
        due("it turns", x.same(0), 2);
    }

    private static void sameLeavesTheLatestRun() {
        SliceWhy x = program(l(INPUT, 0, 0), l(SHARE, 1, 0, 0), l(ADD, 0, 0, 1));
        x.input(0, 8);
        x.run(NONE, 2);
        x.input(0, 0);
        x.test();
        due("same", x.same(1), 1);
        due("least", x.least(1), 2);
        due("seen", x.seen(), 1);
        due("saw", x.saw(0), 9);
        due("steps", x.left(0), 3);
        due("no place failed", x.left(1), NONE);
        due("register", x.left(2), 9);
    }
}
