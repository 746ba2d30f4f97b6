/** Promises 1 to 7, 20, 21, 23: each sentence that names an edge has a test of its own here. */
public final class EditEdgeTest extends Checks {
    public static void main(String[] args) {
        newWithoutPlaces();
        newWithoutTests();
        lineNumbersFromTheFirstToTheLast();
        lineOfNoKind();
        lineOfNoRegister();
        lineOfNoInput();
        lineOfNoName();
        lineOfNoGlobal();
        lineToNoPlace();
        lineDoesNotLookAtOthers();
        lineTakesAnyNumber();
        lineWhenFull();
        changeTellsEveryKindBefore();
        changeOfNoPlace();
        changeAsLine();
        changeWhenFull();
        dropDownToNone();
        dropOfNone();
        startTakesAnyNumber();
        startOfNoGlobal();
        pointsFromOneRowToAll();
        pointsToNoRows();
        pointsOfNoName();
        inputTakesAnyNumber();
        inputThatThereIsNot();
        testNumbersFromTheFirst();
        testWhenFull();
        testsAreInputsAsTheyWere();
        untestOfNoneAndOfAll();
        countsAtFirstAndAtTheirMost();
        countsRunsThatWereNotBad();
        countOfAnotherWhat();
        end("EditEdgeTest");
    }

    private static SliceWhy fullOf(int kind) {
        SliceWhy x = new SliceWhy();
        for (int p = 0; p < 24; p++) {
            due("line " + p, x.line(kind, 0, 0, 0), p);
        }
        return x;
    }

    private static void newWithoutPlaces() {
        says("1 No PLACES");
        SliceWhy x = new SliceWhy();
        due("count(0)", x.count(0), 0);
        due("slice(0, 0)", x.slice(0, 0), BAD);
        due("drop()", x.drop(), STATE);
        due("line", x.line(PASS, 0, 0, 0), 0);
        due("count(0) of another new one", new SliceWhy().count(0), 0);
    }

    private static void newWithoutTests() {
        says("1 no TESTS");
        SliceWhy x = new SliceWhy();
        due("count(1)", x.count(1), 0);
        due("untest()", x.untest(), 0);
        x.line(PASS, 0, 0, 0);
        due("least(0)", x.least(0), STATE);
        due("test()", x.test(), 0);
    }

    private static void lineNumbersFromTheFirstToTheLast() {
        says("2 A PLACE behind the last one: its number");
        SliceWhy x = fullOf(PASS);
        due("drop()", x.drop(), 23);
        due("drop()", x.drop(), 22);
        due("line", x.line(NUMBER, 1, 7, 0), 22);
        due("line", x.line(NUMBER, 1, 8, 0), 23);
        x.run(NONE, 23);
        due("it is the last one", x.saw(0), 8);
        due("all were run", x.left(0), 24);
    }

    private static void lineOfNoKind() {
        says("2 BAD: kind");
        SliceWhy x = new SliceWhy();
        int[] wrong = {-1, 14, 15, MIN, MAX};
        for (int kind : wrong) {
            due("line(" + kind + ", 0, 0, 0)", x.line(kind, 0, 0, 0), BAD);
        }
        due("count(0)", x.count(0), 0);
        due("line(0, 0, 0, 0)", x.line(0, 0, 0, 0), 0);
        due("line(13, 0, 0, 0)", x.line(13, 0, 0, 0), 1);
    }

    /** Of this KIND, number which (0: a, 1: b, 2: c) may be 0 .. most and no other. */
    private static void dueRange(int kind, int which, int most) {
        int[] wrong = {-1, most + 1, MIN, MAX};
        int[] v = new int[3];
        SliceWhy x = new SliceWhy();
        for (int value : wrong) {
            v[which] = value;
            due("line(" + kind + ", " + v[0] + ", " + v[1] + ", " + v[2] + ")", x.line(kind, v[0], v[1], v[2]), BAD);
        }
        due("count(0)", x.count(0), 0);
        v[which] = 0;
        due("line of the least", x.line(kind, v[0], v[1], v[2]), 0);
        v[which] = most;
        due("line(" + kind + ", " + v[0] + ", " + v[1] + ", " + v[2] + ")", x.line(kind, v[0], v[1], v[2]), 1);
    }

    private static void lineOfNoRegister() {
        says("2 BAD: a, b, c of what its KIND has (REGISTER)");
        int[] withA = {NUMBER, INPUT, ADD, LESS, TIMES, SHARE, PUT, GET, USE, SET, IF};
        for (int kind : withA) {
            dueRange(kind, 0, 7);
        }
        int[] withB = {ADD, LESS, TIMES, SHARE, PUT, GET};
        for (int kind : withB) {
            dueRange(kind, 1, 7);
        }
        int[] withC = {ADD, LESS, TIMES, SHARE};
        for (int kind : withC) {
            dueRange(kind, 2, 7);
        }
    }

    private static void lineOfNoInput() {
        says("2 BAD: a, b, c of what its KIND has (INPUT)");
        dueRange(INPUT, 1, 3);
    }

    private static void lineOfNoName() {
        says("2 BAD: a, b, c of what its KIND has (NAME)");
        dueRange(PUT, 2, 3);
        dueRange(GET, 2, 3);
    }

    private static void lineOfNoGlobal() {
        says("2 BAD: a, b, c of what its KIND has (GLOBAL)");
        dueRange(USE, 1, 3);
        dueRange(SET, 1, 3);
    }

    private static void lineToNoPlace() {
        says("2 BAD: a, b, c of what its KIND has (to)");
        dueRange(IF, 1, 24);
        dueRange(GO, 1, 24);
    }

    private static void lineDoesNotLookAtOthers() {
        says("2 others are not looked at");
        int[] far = {MIN, -1, 8, 25, MAX};
        for (int v : far) {
            SliceWhy x = new SliceWhy();
            due("PASS", x.line(PASS, v, v, v), 0);
            due("NUMBER", x.line(NUMBER, 7, 0, v), 1);
            due("INPUT", x.line(INPUT, 7, 3, v), 2);
            due("USE", x.line(USE, 7, 3, v), 3);
            due("SET", x.line(SET, 7, 3, v), 4);
            due("IF", x.line(IF, 6, 6, v), 5);
            due("GO", x.line(GO, v, 7, v), 6);
            due("STOP", x.line(STOP, v, v, v), 7);
            // Nor may any later call stumble over them.
            due("run", x.run(NONE, 7), 0);
            due("steps", x.left(0), 8);
            due("seen", x.seen(), 1);
            due("same", x.same(7), 1);
            due("causes", x.causes(7), 0);
            due("change", x.change(7, GO, v, 24, v), STOP);
        }
    }

    private static void lineTakesAnyNumber() {
        says("NUMBER a, b: r a becomes b (any)");
        int[] any = {MIN, -4, -1, 0, 25, MAX};
        for (int b : any) {
            SliceWhy x = program(l(NUMBER, 7, b));
            x.run(NONE, 0);
            due("NUMBER 7, " + b, x.left(9), b);
        }
    }

    private static void lineWhenFull() {
        says("2 FULL");
        SliceWhy x = fullOf(STOP);
        due("a 25th", x.line(PASS, 0, 0, 0), FULL);
        due("a 25th again", x.line(GO, 0, 0, 0), FULL);
        due("count(0)", x.count(0), 24);
        due("PLACE 24", x.slice(24, 0), BAD);
        due("PLACE 23 stays", x.change(23, PASS, 0, 0, 0), STOP);
        due("drop", x.drop(), 23);
        due("room again", x.line(PASS, 0, 0, 0), 23);
        due("full again", x.line(PASS, 0, 0, 0), FULL);
        says("2 BAD: kind; a, b, c ..; FULL, in this order");
        due("no such kind, and full", x.line(14, 0, 0, 0), BAD);
        due("no such register, and full", x.line(NUMBER, 8, 0, 0), BAD);
    }

    private static void changeTellsEveryKindBefore() {
        says("3 PLACE p becomes another one: its KIND before");
        SliceWhy x = program(l(PASS), l(STOP));
        for (int kind = 0; kind < 14; kind++) {
            due("to " + kind, x.change(0, kind, 0, 0, 0), Math.max(0, kind - 1));
        }
        due("to the same one", x.change(0, STOP, 0, 0, 0), STOP);
        due("back", x.change(0, PASS, 0, 0, 0), STOP);
        due("PLACE 1 stays", x.change(1, STOP, 0, 0, 0), STOP);
        due("count(0)", x.count(0), 2);
    }

    private static void changeOfNoPlace() {
        says("3 BAD: there is no such PLACE");
        SliceWhy x = program(l(STOP), l(STOP));
        int[] wrong = {-1, 2, 24, MIN, MAX};
        for (int p : wrong) {
            due("change(" + p + ", ..)", x.change(p, PASS, 0, 0, 0), BAD);
        }
        due("count(0)", x.count(0), 2);
        x.drop();
        due("of one that went", x.change(1, PASS, 0, 0, 0), BAD);
        due("the last one", x.change(0, PASS, 0, 0, 0), STOP);
        due("of an empty program", new SliceWhy().change(0, PASS, 0, 0, 0), BAD);
    }

    private static void changeAsLine() {
        says("3 BAD (as line())");
        SliceWhy x = program(l(NUMBER, 3, 5));
        int[][] wrong = {{-1, 0, 0, 0}, {14, 0, 0, 0}, {NUMBER, 8, 0, 0}, {NUMBER, -1, 0, 0}, {INPUT, 8, 0, 0}, {INPUT, 0, 4, 0},
            {INPUT, 0, -1, 0}, {ADD, 8, 0, 0}, {LESS, 0, 8, 0}, {TIMES, 0, 0, 8}, {SHARE, 0, 0, -1}, {PUT, 8, 0, 0}, {PUT, 0, 8, 0},
            {PUT, 0, 0, 4}, {GET, -1, 0, 0}, {GET, 0, -1, 0}, {GET, 0, 0, -1}, {USE, 8, 0, 0}, {USE, 0, 4, 0}, {SET, -1, 0, 0},
            {SET, 0, -1, 0}, {IF, 8, 0, 0}, {IF, 0, 25, 0}, {GO, 0, 25, 0}, {GO, 0, -1, 0}};
        for (int[] w : wrong) {
            due("change(0, " + w[0] + ", " + w[1] + ", " + w[2] + ", " + w[3] + ")", x.change(0, w[0], w[1], w[2], w[3]), BAD);
        }
        x.run(NONE, 0);
        due("it stays what it was", x.left(5), 5);
        due("others are not looked at", x.change(0, STOP, MIN, MAX, 25), NUMBER);
        due("to the END", x.change(0, GO, -1, 24, -1), STOP);
        due("the greatest of each", x.change(0, ADD, 7, 7, 7), GO);
    }

    private static void changeWhenFull() {
        says("3 BAD, and no FULL");
        SliceWhy x = fullOf(PASS);
        due("the first", x.change(0, STOP, 0, 0, 0), PASS);
        due("the last", x.change(23, STOP, 0, 0, 0), PASS);
        due("behind the last", x.change(24, STOP, 0, 0, 0), BAD);
        due("count(0)", x.count(0), 24);
    }

    private static void dropDownToNone() {
        says("4 The last PLACE goes: how many are left");
        SliceWhy x = fullOf(PASS);
        for (int left = 23; left >= 0; left--) {
            due("drop()", x.drop(), left);
            due("count(0)", x.count(0), left);
            due("the one that went", x.slice(left, 0), BAD);
        }
    }

    private static void dropOfNone() {
        says("4 STATE: there is none");
        SliceWhy x = new SliceWhy();
        due("new", x.drop(), STATE);
        due("once more", x.drop(), STATE);
        due("count(0)", x.count(0), 0);
        due("line", x.line(STOP, 0, 0, 0), 0);
        due("the only one", x.drop(), 0);
        due("none is left", x.drop(), STATE);
        due("line again", x.line(PASS, 0, 0, 0), 0);
    }

    private static void startTakesAnyNumber() {
        says("5 START of a GLOBAL: 1");
        SliceWhy x = program(l(USE, 0, 0), l(USE, 1, 3));
        int[] any = {MIN, -4, -1, 0, MAX};
        for (int n : any) {
            due("start(0, " + n + ", false)", x.start(0, n, false), 1);
            due("start(3, " + n + ", false)", x.start(3, n, false), 1);
            due("run", x.run(NONE, 1), 0);
            due("GLOBAL 0", x.left(2), n);
            due("GLOBAL 3", x.left(3), n);
            due("start(0, " + n + ", true)", x.start(0, n, true), 1);
            due("it fails, whatever the number", x.run(NONE, 0), 1);
        }
    }

    private static void startOfNoGlobal() {
        says("5 BAD");
        SliceWhy x = program(l(USE, 0, 0), l(USE, 1, 1), l(USE, 2, 2), l(USE, 3, 3));
        int[] wrong = {-1, 4, MIN, MAX};
        for (int g : wrong) {
            due("start(" + g + ", 5, false)", x.start(g, 5, false), BAD);
            due("start(" + g + ", 5, true)", x.start(g, 5, true), BAD);
        }
        due("no GLOBAL fails", x.run(NONE, 0), 0);
        due("no GLOBAL starts with another number", x.left(2) | x.left(3) | x.left(4) | x.left(5), 0);
    }

    private static void pointsFromOneRowToAll() {
        says("6 What a NAME MAY BE of (bits of ROWS, 1 .. 15): what it was");
        for (int name = 0; name < 4; name++) {
            SliceWhy x = new SliceWhy();
            int before = 1;
            for (int rows = 15; rows >= 1; rows--) {
                due("points(" + name + ", " + rows + ")", x.points(name, rows), before);
                before = rows;
            }
            due("the NAME beside it stays", x.points((name + 1) % 4, 2), 1);
        }
    }

    private static void pointsToNoRows() {
        says("6 BAD: rows are 1 .. 15");
        SliceWhy x = new SliceWhy();
        x.points(2, 6);
        int[] wrong = {0, 16, 17, -1, MIN, MAX};
        for (int rows : wrong) {
            due("points(2, " + rows + ")", x.points(2, rows), BAD);
        }
        due("it stays", x.points(2, 1), 6);
    }

    private static void pointsOfNoName() {
        says("6 BAD: a NAME is 0 .. 3");
        SliceWhy x = new SliceWhy();
        int[] wrong = {-1, 4, MIN, MAX};
        for (int name : wrong) {
            due("points(" + name + ", 2)", x.points(name, 2), BAD);
        }
        for (int name = 0; name < 4; name++) {
            due("it stays", x.points(name, 2), 1);
        }
    }

    private static void inputTakesAnyNumber() {
        says("7 An INPUT becomes v (any): 1");
        int[] any = {MIN, -4, -1, 0, MAX};
        for (int k = 0; k < 4; k++) {
            SliceWhy x = program(l(INPUT, 0, k), l(INPUT, 1, (k + 1) % 4));
            for (int v : any) {
                due("input(" + k + ", " + v + ")", x.input(k, v), 1);
                x.run(NONE, 0);
                due("INPUT " + k, x.left(2), v);
                due("the one beside it stays", x.left(3), 0);
            }
        }
    }

    private static void inputThatThereIsNot() {
        says("7 BAD");
        SliceWhy x = program(l(INPUT, 0, 0), l(INPUT, 1, 1), l(INPUT, 2, 2), l(INPUT, 3, 3));
        int[] wrong = {-1, 4, MIN, MAX};
        for (int k : wrong) {
            due("input(" + k + ", 5)", x.input(k, 5), BAD);
        }
        x.run(NONE, 0);
        due("all stay", x.left(2) | x.left(3) | x.left(4) | x.left(5), 0);
    }

    private static void testNumbersFromTheFirst() {
        says("20 INPUTS as now are a TEST: its number");
        SliceWhy x = new SliceWhy();
        due("the first", x.test(), 0);
        due("the same INPUTS again", x.test(), 1);
        x.input(0, 4);
        due("the last", x.test(), 2);
        x.untest();
        due("the first again", x.test(), 0);
    }

    /** PLACE 1 tells twice INPUT 1: LEAST of it has PLACE 0, if INPUT 1 is not 0 in a TEST. */
    private static SliceWhy telling() {
        return program(l(INPUT, 0, 1), l(ADD, 1, 0, 0));
    }

    private static void testWhenFull() {
        says("20 FULL");
        SliceWhy x = telling();
        for (int t = 0; t < 3; t++) {
            due("test()", x.test(), t);
        }
        x.input(1, 5);
        due("a fourth", x.test(), FULL);
        due("a fifth", x.test(), FULL);
        due("count(1)", x.count(1), 3);
        due("it is no TEST, nor took another one's room", x.least(1), set(1));
        due("untest()", x.untest(), 3);
        due("room again", x.test(), 0);
        due("with the INPUTS that were refused", x.least(1), set(0, 1));
    }

    private static void testsAreInputsAsTheyWere() {
        says("20 INPUTS as now");
        for (int which = 0; which < 3; which++) {
            SliceWhy x = telling();
            for (int t = 0; t < 3; t++) {
                x.input(1, t == which ? 5 : 0);
                x.test();
            }
            x.input(1, 0);
            due("TEST " + which + " alone asks for it", x.least(1), set(0, 1));
        }
    }

    private static void untestOfNoneAndOfAll() {
        says("21 No TESTS: how many there were");
        SliceWhy x = telling();
        due("none", x.untest(), 0);
        for (int many = 1; many <= 3; many++) {
            for (int t = 0; t < many; t++) {
                x.test();
            }
            due("untest()", x.untest(), many);
            due("count(1)", x.count(1), 0);
            due("least(1)", x.least(1), STATE);
            due("none any more", x.untest(), 0);
        }
    }

    private static void countsAtFirstAndAtTheirMost() {
        says("23 What = 0 PLACES, 1 TESTS, 2 how many times");
        SliceWhy x = new SliceWhy();
        for (int what = 0; what < 3; what++) {
            due("count(" + what + ") at first", x.count(what), 0);
        }
        for (int p = 0; p < 24; p++) {
            x.line(PASS, 0, 0, 0);
            due("count(0)", x.count(0), p + 1);
        }
        for (int t = 0; t < 3; t++) {
            x.test();
            due("count(1)", x.count(1), t + 1);
        }
        for (int k = 0; k < 200; k++) {
            x.run(NONE, 0);
        }
        due("count(2)", x.count(2), 200);
    }

    private static void countsRunsThatWereNotBad() {
        says("23 how many times run() was not BAD");
        SliceWhy x = program(l(IF, 0, 0), l(SHARE, 0, 0, 1));
        due("SPENT", x.run(NONE, 0), 2);
        due("count(2)", x.count(2), 1);
        x.change(0, PASS, 0, 0, 0);
        due("FAILED", x.run(NONE, 0), 1);
        due("count(2)", x.count(2), 2);
        due("the END, of a slice", x.run(0, 0), 0);
        due("count(2)", x.count(2), 3);
        due("BAD", x.run(NONE, 2), BAD);
        due("BAD", x.run(2, 0), BAD);
        due("count(2)", x.count(2), 3);
        x.test();
        x.same(0);
        x.least(0);
        due("same() and least() are no run()", x.count(2), 3);
        x.drop();
        due("they stay counted", x.count(2), 3);
    }

    private static void countOfAnotherWhat() {
        says("23 BAD");
        SliceWhy x = new SliceWhy();
        int[] wrong = {-1, 3, MIN, MAX};
        for (int what : wrong) {
            due("count(" + what + ")", x.count(what), BAD);
        }
    }
}
