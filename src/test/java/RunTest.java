/** Promises 8 to 11 and 19, and what each KIND does: RUNS, what they tell and leave. */
public final class RunTest {
    private static final int MIN = Integer.MIN_VALUE, MAX = Integer.MAX_VALUE;

    public static void main(String[] args) {
        arithmetic();
        share();
        items();
        itemsOfEachRow();
        rowsByInputThree();
        globals();
        failingGlobals();
        jumps();
        spent();
        spentOfASlice();
        slicesGoByTheRest();
        sawAndLeft();
        wrongRuns();
        same();
        sameLeavesTheLatestRun();
        Checks.end("RunTest");
    }

    private static int calculated(int kind, int left, int right) {
        SliceWhy x = Checks.program(Checks.l(Checks.NUMBER, 6, left), Checks.l(Checks.NUMBER, 7, right), Checks.l(kind, 5, 6, 7));
        Checks.due("run", x.run(Checks.NONE, 2), 0);
        Checks.due("seen", x.seen(), 1);
        Checks.due("what it told and what it set", x.saw(0), x.left(7));
        return x.left(7);
    }

    private static void arithmetic() {
        Checks.due("2 + 3", calculated(Checks.ADD, 2, 3), 5);
        Checks.due("max + 1", calculated(Checks.ADD, MAX, 1), MIN);
        Checks.due("7 * -3", calculated(Checks.TIMES, 7, -3), -21);
        Checks.due("65537 * 65537", calculated(Checks.TIMES, 65537, 65537), 131073);
        Checks.due("1 < 2", calculated(Checks.LESS, 1, 2), 1);
        Checks.due("2 < 2", calculated(Checks.LESS, 2, 2), 0);
        Checks.due("2 < 1", calculated(Checks.LESS, 2, 1), 0);
        Checks.due("min < max", calculated(Checks.LESS, MIN, MAX), 1);
        Checks.due("max < min", calculated(Checks.LESS, MAX, MIN), 0);
    }

    private static void share() {
        Checks.due("7 / 2", calculated(Checks.SHARE, 7, 2), 3);
        Checks.due("-7 / 2", calculated(Checks.SHARE, -7, 2), -3);
        Checks.due("7 / -2", calculated(Checks.SHARE, 7, -2), -3);
        Checks.due("min / -1", calculated(Checks.SHARE, MIN, -1), MIN);
        SliceWhy x = Checks.program(Checks.l(Checks.NUMBER, 1, 9), Checks.l(Checks.SHARE, 1, 1, 0), Checks.l(Checks.NUMBER, 1, 4));
        Checks.due("9 / 0", x.run(Checks.NONE, 1), 1);
        Checks.due("place", x.left(1), 1);
        Checks.due("steps", x.left(0), 2);
        Checks.due("seen", x.seen(), 1);
        Checks.due("saw", x.saw(0), Checks.FAILURE);
        Checks.due("nothing is set", x.left(3), 9);
        Checks.due("9 / 0 once more", x.run(Checks.NONE, 2), 1);
        Checks.due("the place behind is not come to", x.seen(), 0);
    }

    /** GETS from each item from -1 to 8 what was PUT there by number & 7. */
    private static void items() {
        for (int item = -1; item <= 8; item++) {
            SliceWhy x = Checks.program(Checks.l(Checks.INPUT, 0, 0), Checks.l(Checks.NUMBER, 1, 50), Checks.l(Checks.PUT, 1, 0, 2),
                Checks.l(Checks.NUMBER, 3, item & 7), Checks.l(Checks.GET, 4, 3, 2), Checks.l(Checks.NUMBER, 3, (item + 1) & 7),
                Checks.l(Checks.GET, 5, 3, 2));
            x.input(0, item);
            Checks.due("run", x.run(Checks.NONE, 2), 0);
            Checks.due("PUT tells what it set", x.saw(0), 50);
            Checks.due("item " + item, x.left(6), 50);
            Checks.due("the item behind " + item, x.left(7), 0);
            x.run(Checks.NONE, 4);
            Checks.due("GET tells what it set", x.saw(0), 50);
            x.change(2, Checks.PASS, 0, 0, 0);
            x.run(Checks.NONE, 4);
            Checks.due("items are 0 in the next run", x.saw(0), 0);
        }
    }

    /** PUTS one number into each item of each ROW, and finds it there alone, and nowhere in the next RUN. */
    private static void itemsOfEachRow() {
        for (int put = 0; put < 32; put++) {
            SliceWhy x = Checks.program(Checks.l(Checks.INPUT, 0, 0), Checks.l(Checks.INPUT, 1, 1), Checks.l(Checks.NUMBER, 2, 50),
                Checks.l(Checks.PUT, 2, 0, 0), Checks.l(Checks.GET, 3, 1, 1));
            x.points(0, 1 << put / 8);
            x.input(0, put % 8);
            for (int get = 0; get < 32; get++) {
                dueItem(x, put, get);
            }
            dueItem(x, put, put);
            x.change(3, Checks.PASS, 0, 0, 0);
            x.run(Checks.NONE, 4);
            Checks.due("item " + put + " in the next run", x.saw(0), 0);
        }
    }

    private static void dueItem(SliceWhy x, int put, int get) {
        x.points(1, 1 << get / 8);
        x.input(1, get % 8);
        x.run(Checks.NONE, 4);
        Checks.due("item " + get + " with " + put + " put", x.saw(0), put == get ? 50 : 0);
    }

    private static void rowsByInputThree() {
        checkRow(1, MAX, 0);
        checkRow(8, 5, 3);
        checkRow(5, 0, 0);
        checkRow(5, 1, 2);
        checkRow(5, 2, 0);
        checkRow(10, 3, 3);
        checkRow(14, 0, 1);
        checkRow(14, 1, 2);
        checkRow(14, 5, 3);
        checkRow(15, 7, 3);
        checkRow(15, -2, 2);
        // Without its sign's bit -1 is 2147483647, which leaves 1; the lowest int is 0 then.
        checkRow(11, -1, 1);
        checkRow(11, MIN, 0);
        checkRow(11, -3, 3);
        checkRow(11, MAX, 1);
    }

    /** NAME 0 may be of rows; NAMES 1, 2, 3 are of ROWS 1, 2, 3, and of ROW 0 in a second run. */
    private static void checkRow(int rows, int choice, int row) {
        SliceWhy x = Checks.program(Checks.l(Checks.NUMBER, 0, 1), Checks.l(Checks.PUT, 0, 0, 0), Checks.l(Checks.GET, 1, 0, 1),
            Checks.l(Checks.GET, 2, 0, 2), Checks.l(Checks.GET, 3, 0, 3));
        x.input(3, choice);
        x.points(0, rows);
        x.points(1, 2);
        x.points(2, 4);
        x.points(3, 8);
        x.run(Checks.NONE, 1);
        for (int other = 1; other < 4; other++) {
            String call = "rows " + rows + ", input 3 " + choice + ", row " + other;
            Checks.due(call, x.left(2 + other), row == other ? 1 : 0);
        }
        x.points(1, 1);
        x.run(Checks.NONE, 1);
        Checks.due("rows " + rows + ", input 3 " + choice + ", row 0", x.left(3), row == 0 ? 1 : 0);
    }

    private static void globals() {
        SliceWhy x = Checks.program(Checks.l(Checks.USE, 0, 3), Checks.l(Checks.NUMBER, 1, 6), Checks.l(Checks.SET, 1, 3),
            Checks.l(Checks.USE, 2, 3));
        x.start(3, -4, false);
        x.run(Checks.NONE, 0);
        Checks.due("USE tells", x.saw(0), -4);
        x.run(Checks.NONE, 2);
        Checks.due("SET tells", x.saw(0), 6);
        Checks.due("GLOBAL as set", x.left(4), 6);
    }

    private static void failingGlobals() {
        SliceWhy x = Checks.program(Checks.l(Checks.NUMBER, 0, 3), Checks.l(Checks.SET, 0, 1), Checks.l(Checks.USE, 0, 1));
        x.start(1, 5, true);
        Checks.due("SET fails", x.run(Checks.NONE, 1), 1);
        Checks.due("place", x.left(1), 1);
        Checks.due("saw", x.saw(0), Checks.FAILURE);
        x.change(1, Checks.SET, 0, 2, 0);
        Checks.due("USE fails", x.run(Checks.NONE, 2), 1);
        Checks.due("place", x.left(1), 2);
        Checks.due("steps", x.left(0), 3);
        Checks.due("saw", x.saw(0), Checks.FAILURE);
        Checks.due("nothing is set", x.left(2), 3);
        x.start(1, 5, false);
        Checks.due("not any more", x.run(Checks.NONE, 2), 0);
        Checks.due("no place failed", x.left(1), Checks.NONE);
    }

    private static void jumps() {
        SliceWhy x = Checks.program(Checks.l(Checks.INPUT, 0, 0), Checks.l(Checks.IF, 0, 4), Checks.l(Checks.NUMBER, 1, 1),
            Checks.l(Checks.GO, 0, 6), Checks.l(Checks.NUMBER, 1, 2), Checks.l(Checks.STOP), Checks.l(Checks.PASS),
            Checks.l(Checks.GO, 0, 24), Checks.l(Checks.NUMBER, 1, 3));
        x.run(Checks.NONE, 1);
        Checks.due("IF tells 1 where it is 0", x.saw(0), 1);
        Checks.due("it goes", x.left(3), 2);
        Checks.due("STOP ends it", x.left(0), 4);
        int[] toldZero = {3, 6, 7};
        x.input(0, -1);
        x.run(Checks.NONE, 1);
        Checks.due("IF tells 0 where it is not 0", x.saw(0), 0);
        Checks.due("seen", x.seen(), 1);
        Checks.due("it goes on behind", x.left(3), 1);
        Checks.due("steps", x.left(0), 6);
        for (int p : toldZero) {
            x.run(Checks.NONE, p);
            Checks.due("seen " + p, x.seen(), 1);
            Checks.due("saw " + p, x.saw(0), 0);
        }
        x.input(0, 0);
        x.run(Checks.NONE, 5);
        Checks.due("STOP is seen", x.seen(), 1);
        Checks.due("STOP tells", x.saw(0), 0);
    }

    /** INPUT 0 of 33 makes 3 * 33 + 1 STEPS to PLACE 5. */
    private static SliceWhy countdown() {
        return Checks.program(Checks.l(Checks.INPUT, 0, 0), Checks.l(Checks.NUMBER, 1, -1), Checks.l(Checks.ADD, 0, 0, 1),
            Checks.l(Checks.IF, 0, 5), Checks.l(Checks.GO, 0, 2));
    }

    private static void spent() {
        SliceWhy x = countdown();
        x.input(0, 33);
        Checks.due("100 steps, then the end", x.run(Checks.NONE, 2), 0);
        Checks.due("steps", x.left(0), 100);
        Checks.due("seen", x.seen(), 33);
        Checks.due("saw the first", x.saw(0), 32);
        Checks.due("saw the last", x.saw(32), 0);
        Checks.due("saw behind", x.saw(33), 0);
        x.line(Checks.PASS, 0, 0, 0);
        Checks.due("one more is come to", x.run(Checks.NONE, 5), 2);
        Checks.due("steps", x.left(0), 100);
        Checks.due("it was not done", x.seen(), 0);
        Checks.due("no place failed", x.left(1), Checks.NONE);
        Checks.due("register at the end", x.left(2), 0);
        x.change(5, Checks.SHARE, 0, 0, 0);
        Checks.due("nor does it fail", x.run(Checks.NONE, 5), 2);
        SliceWhy y = Checks.program(Checks.l(Checks.GO, 0, 0));
        Checks.due("it turns on one place", y.run(Checks.NONE, 0), 2);
        Checks.due("seen", y.seen(), 100);
        Checks.due("steps", y.left(0), 100);
    }

    private static void spentOfASlice() {
        SliceWhy x = countdown();
        x.line(Checks.NUMBER, 5, 5, 0);
        x.input(0, 33);
        Checks.due("the whole", x.run(Checks.NONE, 2), 2);
        Checks.due("the end behind places that are gone by", x.run(2, 2), 0);
        Checks.due("steps", x.left(0), 100);
        x.input(0, 34);
        Checks.due("spent", x.run(2, 2), 2);
    }

    private static void slicesGoByTheRest() {
        SliceWhy x = Checks.program(Checks.l(Checks.NUMBER, 0, 5), Checks.l(Checks.NUMBER, 1, 6), Checks.l(Checks.ADD, 2, 0, 0),
            Checks.l(Checks.ADD, 3, 1, 1));
        Checks.due("run of BACK of 2", x.run(2, 2), 0);
        Checks.due("steps", x.left(0), 2);
        Checks.due("saw", x.saw(0), 10);
        Checks.due("what is not in it is not set", x.left(3), 0);
        x.run(2, 3);
        Checks.due("a watched place that is gone by is not come to", x.seen(), 0);
        Checks.due("nor does it tell", x.saw(0), 0);
        x.run(3, 3);
        Checks.due("saw", x.saw(0), 12);
        Checks.due("what is not in it is not set", x.left(2), 0);
    }

    private static void sawAndLeft() {
        SliceWhy x = Checks.program(Checks.l(Checks.NUMBER, 0, -4), Checks.l(Checks.NUMBER, 7, MIN), Checks.l(Checks.NUMBER, 0, -1));
        x.run(Checks.NONE, 0);
        Checks.due("saw(0)", x.saw(0), -4);
        Checks.due("saw(-1)", x.saw(-1), 0);
        Checks.due("saw(1)", x.saw(1), 0);
        Checks.due("saw(max)", x.saw(MAX), 0);
        Checks.due("saw(min)", x.saw(MIN), 0);
        Checks.due("left(0)", x.left(0), 3);
        Checks.due("left(2)", x.left(2), -1);
        Checks.due("left(3)", x.left(3), 0);
        Checks.due("left(9)", x.left(9), MIN);
        Checks.due("left(10)", x.left(10), 0);
        Checks.due("left(-1)", x.left(-1), 0);
        Checks.due("left(max)", x.left(MAX), 0);
        Checks.due("left(min)", x.left(MIN), 0);
    }

    private static void wrongRuns() {
        SliceWhy x = Checks.program(Checks.l(Checks.NUMBER, 0, 9), Checks.l(Checks.SHARE, 1, 0, 1));
        x.run(Checks.NONE, 0);
        int[][] wrong = {{-4, 2}, {-4, -1}, {2, 0}, {-1, 0}, {-2, 0}, {-3, 0}, {-5, 0}, {0, -4}, {MAX, 0}, {0, MIN}, {0, MAX}};
        for (int[] w : wrong) {
            Checks.due("run(" + w[0] + ", " + w[1] + ")", x.run(w[0], w[1]), Checks.BAD);
            Checks.due("the latest run stays", x.seen(), 1);
            Checks.due("what it told too", x.saw(0), 9);
            Checks.due("where it failed too", x.left(1), 1);
        }
        Checks.due("count(2)", x.count(2), 1);
    }

    private static void same() {
        SliceWhy x = countdown();
        x.input(0, 5);
        Checks.due("same(2)", x.same(2), 1);
        Checks.due("same(-1)", x.same(-1), Checks.BAD);
        Checks.due("same(5)", x.same(5), Checks.BAD);
        x.input(0, 34);
        Checks.due("the whole is spent", x.same(2), 2);
        x.input(0, 33);
        Checks.due("the whole is not spent", x.same(2), 1);
        x.line(Checks.NUMBER, 5, 5, 0);
        Checks.due("the whole alone is spent", x.same(2), 2);
        sameWhereTheWholeFailsOrTurns();
    }

    private static void sameWhereTheWholeFailsOrTurns() {
        SliceWhy x = Checks.program(Checks.l(Checks.NUMBER, 0, 1), Checks.l(Checks.SHARE, 1, 0, 2), Checks.l(Checks.ADD, 3, 0, 0));
        Checks.due("the whole fails before it", x.same(2), 1);
        Checks.due("so does the slice", x.run(2, 2), 1);
        Checks.due("it fails itself", x.same(1), 1);
        x.change(1, Checks.GO, 0, 1, 0);
        Checks.due("it turns", x.same(0), 2);
    }

    private static void sameLeavesTheLatestRun() {
        SliceWhy x = Checks.program(Checks.l(Checks.INPUT, 0, 0), Checks.l(Checks.SHARE, 1, 0, 0), Checks.l(Checks.ADD, 0, 0, 1));
        x.input(0, 8);
        x.run(Checks.NONE, 2);
        x.input(0, 0);
        x.test();
        Checks.due("same", x.same(1), 1);
        Checks.due("least", x.least(1), 2);
        Checks.due("seen", x.seen(), 1);
        Checks.due("saw", x.saw(0), 9);
        Checks.due("steps", x.left(0), 3);
        Checks.due("no place failed", x.left(1), Checks.NONE);
        Checks.due("register", x.left(2), 9);
    }
}
