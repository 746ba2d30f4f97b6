import java.util.stream.IntStream;

/** The words in capitals: each sentence under "What it is" and "Terms" that names an edge has a test of its own here. */
public final class TermsEdgeTest extends Checks {
    public static void main(String[] args) {
        placesAtMost();
        callsAtMost();
        registersAtFirst();
        inputsAtFirst();
        itemsAtFirst();
        namesAtFirst();
        globalsAtFirst();
        sumsWrap();
        productsWrap();
        quotientsAreCut();
        toThatThereIsNot();
        lessIsBelow();
        shareByZero();
        itemsByThreeBits();
        failingGlobals();
        ifWhereItIsZero();
        runsBeginAnew();
        globalsBecome();
        rowsByInputThree();
        theLastOneGoesToTheEnd();
        failuresEndIt();
        outOfTheSetNoSteps();
        spentAfterAHundred();
        whatIsTold();
        nextOfTheLast();
        nextOfWhatMayFail();
        nextOfGoAndStop();
        widerNextOfGoAndStop();
        thinLeaveOut();
        thinByKindsOneToThree();
        hangsOnItself();
        hangsThroughTheFirst();
        hangsByOneStep();
        hangsPastNoOtherSetter();
        hangsByNamesOfOneRow();
        hangsByControlOfItself();
        followsNotItself();
        causesByKinds();
        backAndForwardHaveThePlace();
        wayOfTheLeast();
        leastFromTheLast();
        leastNotSpent();
        leastOnceMore();
        end("TermsEdgeTest");
    }

    /** What this PLACE tells the first time in a RUN of the whole. */
    private static int told(SliceWhy x, int p) {
        x.run(NONE, p);
        return x.saw(0);
    }

    private static int made(int kind, int left, int right) {
        return told(program(l(NUMBER, 6, left), l(NUMBER, 7, right), l(kind, 5, 6, 7)), 2);
    }

    private static void placesAtMost() {
        says("A PROGRAM has PLACES, 24 at most, numbered from 0 on");
        SliceWhy x = new SliceWhy();
        for (int p = 0; p < 24; p++) {
            due("PLACE " + p + " before", x.slice(p, 0), BAD);
            due("line", x.line(PASS, 0, 0, 0), p);
            due("PLACE " + p, x.slice(p, 0), 1 << p);
        }
        due("line", x.line(PASS, 0, 0, 0), FULL);
    }

    private static void callsAtMost() {
        says("An object is used for at most 512 calls");
        SliceWhy x = new SliceWhy();
        x.line(NUMBER, 0, 1, 0);
        for (int p = 1; p < 24; p++) {
            x.line(ADD, p % 8, (p - 1) % 8, (p - 1) % 8);
        }
        x.test();
        for (int call = 26; call <= 511; call++) {
            due("call " + call, call % 2 == 0 ? x.least(23) : x.run(23, 23), call % 2 == 0 ? (1 << 24) - 1 : 0);
        }
        due("call 512", x.saw(0), 1 << 23);
    }

    private static void registersAtFirst() {
        says("REGISTERS 0 .. 7 are ints (0 at first)");
        for (int r = 0; r < 8; r++) {
            due("r " + r + " is 0", told(program(l(SET, r, 0)), 0), 0);
            SliceWhy x = program(l(NUMBER, r, MIN), l(SET, r, 0), l(SET, (r + 1) % 8, 0));
            due("r " + r, told(x, 1), MIN);
            due("the one behind is another", told(x, 2), 0);
        }
    }

    private static void inputsAtFirst() {
        says("INPUTS 0 .. 3 too (0 at first)");
        for (int k = 0; k < 4; k++) {
            SliceWhy x = program(l(INPUT, 0, k));
            due("INPUT " + k + " is 0", told(x, 0), 0);
            x.input(k, MIN);
            due("INPUT " + k, told(x, 0), MIN);
        }
    }

    private static void itemsAtFirst() {
        says("ROWS 0 .. 3 have 8 items, 0 at first");
        for (int item = 0; item < 32; item++) {
            SliceWhy x = program(l(INPUT, 0, 0), l(INPUT, 1, 1), l(NUMBER, 2, 5), l(GET, 3, 0, 0), l(PUT, 2, 0, 0), l(GET, 4, 1, 1));
            x.points(0, 1 << item / 8);
            x.input(0, item % 8);
            due("item " + item + " is 0", told(x, 3), 0);
            for (int other = 0; other < 32; other++) {
                x.points(1, 1 << other / 8);
                x.input(1, other % 8);
                due("item " + other + " when " + item + " is 5", told(x, 5), other == item ? 5 : 0);
            }
        }
    }

    private static void namesAtFirst() {
        says("a NAME 0 .. 3 MAY BE of ROWS, at least one (of ROW 0 alone at first)");
        for (int name = 0; name < 4; name++) {
            SliceWhy x = program(l(NUMBER, 0, 5), l(PUT, 0, 0, name), l(GET, 1, 0, (name + 1) % 4));
            x.input(3, name);
            due("both are ROW 0", told(x, 2), 5);
            due("so one HANGS on the other", x.cause(2, 1, 1), 2);
            due("points(" + name + ", 0)", x.points(name, 0), BAD);
            due("of ROW 0 alone", x.points(name, 15), 1);
            x.points(name, 2);
            due("another ROW", told(x, 2), 0);
        }
    }

    private static void globalsAtFirst() {
        says("GLOBALS 0 .. 3 have a START: a number (0 at first), or it FAILS");
        for (int g = 0; g < 4; g++) {
            SliceWhy x = program(l(USE, 0, g));
            due("GLOBAL " + g, x.run(NONE, 0), 0);
            due("GLOBAL " + g + " is 0", x.saw(0), 0);
            x.start(g, 0, true);
            due("it FAILS", x.run(NONE, 0), 1);
            x.start((g + 1) % 4, 5, false);
            due("it FAILS still", x.run(NONE, 0), 1);
            x.start(g, -1, false);
            due("a number again", told(x, 0), -1);
        }
    }

    private static void sumsWrap() {
        says("sums wrap");
        due("max + 1", made(ADD, MAX, 1), MIN);
        due("min + -1", made(ADD, MIN, -1), MAX);
        due("min + min", made(ADD, MIN, MIN), 0);
        due("max + max", made(ADD, MAX, MAX), -2);
    }

    private static void productsWrap() {
        says("products wrap");
        due("max * 2", made(TIMES, MAX, 2), -2);
        due("min * -1", made(TIMES, MIN, -1), MIN);
        due("65536 * 65536", made(TIMES, 65536, 65536), 0);
        due("max * max", made(TIMES, MAX, MAX), 1);
    }

    private static void quotientsAreCut() {
        says("quotients are cut");
        due("7 / 2", made(SHARE, 7, 2), 3);
        due("-7 / 2", made(SHARE, -7, 2), -3);
        due("7 / -2", made(SHARE, 7, -2), -3);
        due("-7 / -2", made(SHARE, -7, -2), 3);
        due("-1 / 2", made(SHARE, -1, 2), 0);
        due("min / -1", made(SHARE, MIN, -1), MIN);
        due("0 / min", made(SHARE, 0, MIN), 0);
    }

    private static void toThatThereIsNot() {
        says("to: 0 .. 24; a place that there is not, is the END");
        for (int to = 0; to <= 24; to++) {
            SliceWhy x = program(l(NUMBER, 0, 1), l(IF, 1, to), l(NUMBER, 2, 3), l(NUMBER, 2, 4));
            boolean end = to > 3;
            due("IF to " + to, x.run(NONE, 0), to < 2 ? 2 : 0);
            due("steps", x.left(0), to < 2 ? 100 : end ? 2 : 6 - to);
            due("what FOLLOWS it", x.follows(1), to < 3 ? set(2, 3) : end ? 0 : set(3));
            x.change(1, GO, 0, to, 0);
            due("GO to " + to, x.run(NONE, 0), to < 2 ? 2 : 0);
            due("steps", x.left(0), to < 2 ? 100 : end ? 2 : 6 - to);
        }
        SliceWhy y = program(l(GO, 0, 2), l(PASS));
        y.run(NONE, 0);
        due("no PLACE 2", y.left(0), 1);
        y.line(PASS, 0, 0, 0);
        y.run(NONE, 0);
        due("now there is one", y.left(0), 2);
    }

    private static void lessIsBelow() {
        says("LESS: 1 if r b is below r c, else 0");
        due("1, 2", made(LESS, 1, 2), 1);
        due("2, 2", made(LESS, 2, 2), 0);
        due("2, 1", made(LESS, 2, 1), 0);
        due("min, max", made(LESS, MIN, MAX), 1);
        due("max, min", made(LESS, MAX, MIN), 0);
        due("-1, 0", made(LESS, -1, 0), 1);
    }

    private static void shareByZero() {
        says("SHARE: it FAILS, if r c is 0");
        due("5 / 0", made(SHARE, 5, 0), FAILURE);
        due("0 / 0", made(SHARE, 0, 0), FAILURE);
        due("min / 0", made(SHARE, MIN, 0), FAILURE);
        due("0 / 1", made(SHARE, 0, 1), 0);
        due("0 / -1", made(SHARE, 0, -1), 0);
    }

    private static void itemsByThreeBits() {
        says("item (r b & 7) of NAME c");
        int[][] alike = {{8, 0}, {-1, 7}, {MIN, 0}, {MAX, 7}, {-8, 0}, {15, 7}};
        for (int[] one : alike) {
            SliceWhy x = program(l(NUMBER, 0, one[0]), l(NUMBER, 1, one[1]), l(NUMBER, 2, 5), l(PUT, 2, 0, 3), l(GET, 3, 1, 3),
                l(NUMBER, 2, 6), l(PUT, 2, 1, 3), l(GET, 3, 0, 3));
            due("PUT " + one[0] + ", GET " + one[1], told(x, 4), 5);
            due("PUT " + one[1] + ", GET " + one[0], told(x, 7), 6);
        }
    }

    private static void failingGlobals() {
        says("(USE, SET of a GLOBAL whose START FAILS FAIL.)");
        SliceWhy x = program(l(SET, 0, 3), l(USE, 0, 3));
        x.start(3, 5, true);
        due("SET", x.run(NONE, 0), 1);
        due("at 0", x.left(1), 0);
        due("it told so", x.saw(0), FAILURE);
        x.change(0, SET, 0, 2, 0);
        due("SET of another one is fine; USE", x.run(NONE, 1), 1);
        due("at 1", x.left(1), 1);
        due("it told so", x.saw(0), FAILURE);
        x.change(1, USE, 0, 2, 0);
        due("USE of another one is fine", x.run(NONE, 1), 0);
    }

    private static void ifWhereItIsZero() {
        says("IF a, b: where r a is 0, it goes on at b");
        int[] values = {0, 1, -1, MIN, MAX};
        for (int v : values) {
            SliceWhy x = program(l(NUMBER, 7, v), l(IF, 7, 3), l(NUMBER, 0, 5), l(PASS));
            due("it tells", told(x, 1), v == 0 ? 1 : 0);
            due("it went", x.left(2), v == 0 ? 0 : 5);
        }
    }

    private static void runsBeginAnew() {
        says("A RUN begins at PLACE 0 with REGISTERS, items 0, GLOBALS as by START");
        for (int item = 0; item < 32; item++) {
            SliceWhy x = program(l(ADD, 3, 2, 2), l(USE, 5, 0), l(INPUT, 1, 0), l(GET, 4, 1, 0), l(NUMBER, 2, 6), l(PUT, 2, 1, 0),
                l(SET, 2, 0));
            x.points(0, 1 << item / 8);
            x.input(0, item % 8);
            x.start(0, -2, false);
            for (int run = 0; run < 2; run++) {
                due("run", x.run(NONE, 0), 0);
                due("PLACE 0 is run", x.seen(), 1);
                due("a REGISTER that is set behind", x.left(5), 0);
                due("item " + item + ", which is set behind", x.left(6), 0);
                due("a GLOBAL that is set behind", x.left(7), -2);
            }
        }
    }

    private static void globalsBecome() {
        says("USE a, b: r a becomes GLOBAL b. SET a, b: GLOBAL b becomes r a");
        for (int g = 0; g < 4; g++) {
            SliceWhy x = program(l(NUMBER, 7, MIN), l(SET, 7, g), l(USE, 0, g), l(USE, 1, (g + 1) % 4));
            x.start((g + 1) % 4, 3, false);
            due("GLOBAL " + g, told(x, 2), MIN);
            due("the one behind is another", told(x, 3), 3);
            due("USE HANGS on SET", x.cause(2, 0, 1), 3);
            due("of another GLOBAL on none", x.causes(3), 0);
        }
    }

    /** Which ROW NAME 0 is of, if it MAY BE of these and INPUT 3 is this. */
    private static int chosen(int rows, int choice) {
        SliceWhy x = program(l(NUMBER, 0, 1), l(PUT, 0, 0, 0), l(GET, 1, 0, 1));
        x.points(0, rows);
        x.input(3, choice);
        int found = -1;
        for (int row = 0; row < 4; row++) {
            x.points(1, 1 << row);
            if (told(x, 2) == 1) {
                found = found == -1 ? row : 99;
            }
        }
        return found;
    }

    private static void rowsByInputThree() {
        says("each NAME of the (INPUT 3, as one without its sign's bit, modulo how many)-th of the ROWS that it MAY BE");
        for (int rows = 1; rows < 16; rows++) {
            int bits = rows;
            int many = Integer.bitCount(rows);
            int[] byNumbers = IntStream.range(0, 4).filter(row -> (bits >> row & 1) != 0).toArray();
            int[] choices = {0, 1, 2, 3, 4, 5, 11, MAX};
            for (int choice : choices) {
                due("rows " + rows + ", INPUT 3 " + choice, chosen(rows, choice), byNumbers[choice % many]);
            }
            due("rows " + rows + ", INPUT 3 -1 is as max", chosen(rows, -1), byNumbers[MAX % many]);
            due("rows " + rows + ", INPUT 3 min is as 0", chosen(rows, MIN), byNumbers[0]);
            due("rows " + rows + ", INPUT 3 min + 1 is as 1", chosen(rows, MIN + 1), byNumbers[1 % many]);
        }
    }

    private static void theLastOneGoesToTheEnd() {
        says("it goes on from each PLACE to the next one, if nothing else is said, till it is at the END");
        SliceWhy one = program(l(PASS));
        due("one PLACE", one.run(NONE, 0), 0);
        due("steps", one.left(0), 1);
        SliceWhy x = new SliceWhy();
        for (int p = 0; p < 24; p++) {
            x.line(PASS, 0, 0, 0);
        }
        due("24", x.run(NONE, 23), 0);
        due("steps", x.left(0), 24);
        due("seen", x.seen(), 1);
    }

    private static void failuresEndIt() {
        says("a PLACE that FAILS ends it (nothing is set)");
        SliceWhy x = program(l(NUMBER, 0, 9), l(SHARE, 0, 0, 1), l(NUMBER, 0, 4));
        due("SHARE", x.run(NONE, 2), 1);
        due("nothing behind it", x.seen(), 0);
        due("nothing is set", x.left(2), 9);
        x.start(0, 7, true);
        x.change(1, USE, 0, 0, 0);
        due("USE", x.run(NONE, 2), 1);
        due("nothing behind it", x.seen(), 0);
        due("nothing is set", x.left(2), 9);
        SliceWhy y = program(l(NUMBER, 0, 0), l(SHARE, 0, 1, 1), l(GO, 0, 0));
        due("it does not begin again", y.run(NONE, 0), 1);
        due("seen", y.seen(), 1);
    }

    private static void outOfTheSetNoSteps() {
        says("those that are not in it are gone by as if they were PASS, and are no STEPS");
        SliceWhy x = program(l(NUMBER, 0, 5), l(SHARE, 1, 2, 2), l(GO, 0, 2), l(STOP));
        due("neither SHARE nor GO nor STOP is in BACK of 0", x.slice(0, 0), 1);
        due("none FAILS or turns", x.run(0, 1), 0);
        due("steps", x.left(0), 1);
        due("one that is gone by is not seen", x.seen(), 0);
        SliceWhy y = program(l(NUMBER, 0, 5), l(NUMBER, 0, 6), l(ADD, 1, 0, 0));
        due("what is gone by sets nothing", y.run(0, 0), 0);
        due("r 0", y.left(2), 5);
        due("before the first of them", y.run(2, 2), 0);
        due("saw", y.saw(0), 12);
        due("steps", y.left(0), 2);
    }

    private static void spentAfterAHundred() {
        says("It is SPENT, when 100 STEPS were done and one more is come to");
        // Two STEPS, and 24 turns of four, the last one without its GO.
        SliceWhy x = program(l(INPUT, 0, 0), l(NUMBER, 1, -1), l(ADD, 0, 0, 1), l(IF, 2, 4), l(IF, 0, 7), l(GO, 0, 2), l(PASS));
        x.input(0, 24);
        due("so many", x.run(NONE, 2), 0);
        due("steps", x.left(0), 97);
        x.change(6, GO, 0, 6, 0);
        x.change(4, IF, 0, 6, 0);
        due("and three more, and one", x.run(NONE, 6), 2);
        due("steps", x.left(0), 100);
        due("the three", x.seen(), 3);
        x.change(6, PASS, 0, 0, 0);
        x.line(PASS, 0, 0, 0);
        x.line(PASS, 0, 0, 0);
        due("and three more", x.run(NONE, 8), 0);
        due("steps", x.left(0), 100);
        due("the last of them", x.seen(), 1);
        x.line(PASS, 0, 0, 0);
        due("and four more", x.run(NONE, 9), 2);
        due("steps", x.left(0), 100);
        due("the fourth", x.seen(), 0);
    }

    private static void whatIsTold() {
        says("What a PLACE TELLS each time: what it set; PASS, GO, STOP 0; FAILED: 1000000007");
        int[][] lines = {{PASS, 1, 2, 3}, {NUMBER, 5, -3}, {INPUT, 5, 0}, {ADD, 5, 1, 2}, {LESS, 5, 1, 2}, {TIMES, 5, 1, 2},
            {SHARE, 5, 2, 1}, {PUT, 2, 1, 0}, {GET, 5, 1, 0}, {USE, 5, 0}, {SET, 2, 1}, {IF, 0, 9}, {GO, 2, 9}, {STOP, 1, 2, 3}};
        int[] want = {0, -3, -8, 13, 1, 22, 5, 11, 0, -6, 11, 1, 0, 0};
        for (int kind = 0; kind < 14; kind++) {
            SliceWhy x = program(l(NUMBER, 1, 2), l(NUMBER, 2, 11), lines[kind]);
            x.input(0, -8);
            x.start(0, -6, false);
            due("kind " + kind, told(x, 2), want[kind]);
            due("seen", x.seen(), 1);
        }
        due("IF that does not go", told(program(l(NUMBER, 1, 2), l(IF, 1, 9)), 1), 0);
        due("FAILED", told(program(l(SHARE, 0, 0, 0)), 0), FAILURE);
    }

    private static void nextOfTheLast() {
        says("NEXT of a PLACE: the PLACE behind it (the END behind the last)");
        SliceWhy x = program(l(ADD, 0, 0, 0), l(PASS), l(ADD, 0, 0, 0));
        due("the last leads to none", x.causes(0), 0);
        due("the first leads to the last", x.cause(2, 0, 0), 0);
        due("the last does not lead to itself", x.causes(2), 1);
    }

    private static void nextOfWhatMayFail() {
        says("NEXT of SHARE, and of USE, SET of a GLOBAL whose START FAILS, that behind and the END");
        int[] kinds = {SHARE, USE, SET};
        for (int kind : kinds) {
            SliceWhy x = program(l(kind, 1, 2, 3), l(ADD, 0, 1, 1), l(PASS));
            x.start(1, 0, true);
            due("kind " + kind + ", another one FAILS", x.follows(0), kind == SHARE ? 0 : set(1, 2));
            x.start(2, 0, true);
            due("kind " + kind, x.follows(0), 0);
            due("what HANGS on it", x.slice(0, 2), set(0, 1, 2));
            due("that behind is a NEXT, too", x.cause(1, 0, 1), kind == SET ? 4 : 1);
            due("nothing FOLLOWS by the END", x.follows(1), set(2));
        }
    }

    private static void nextOfGoAndStop() {
        says("NEXT of GO where it goes; of STOP the END");
        SliceWhy x = program(l(NUMBER, 0, 1), l(GO, 0, 3), l(ADD, 1, 0, 0), l(ADD, 2, 0, 0));
        due("by REGISTER past GO: where it goes", x.cause(3, 0, 1), 1);
        due("not behind it", x.cause(2, 0, 1), 4);
        x.change(1, STOP, 0, 0, 0);
        due("by CONTROL alone", x.causes(2), 1);
        due("STOP", x.cause(2, 0, 0), 1);
        due("by CONTROL alone", x.causes(3), 1);
        x.change(1, GO, 0, 24, 0);
        due("GO to the END", x.causes(3), 1);
    }

    private static void widerNextOfGoAndStop() {
        says("WIDER NEXT: of GO, STOP that behind, too");
        SliceWhy x = program(l(GO, 0, 2), l(PASS), l(PASS));
        due("PLACE 1 does not FOLLOW", x.follows(0), set(2));
        due("it HANGS on GO", x.causes(1), 1);
        due("where GO goes does not", x.causes(2), 0);
        SliceWhy y = program(l(STOP), l(PASS));
        due("nothing FOLLOWS STOP", y.follows(0), 0);
        due("that behind HANGS on STOP", y.cause(1, 0, 1), 4);
        SliceWhy z = program(l(GO, 0, 0), l(PASS));
        due("what cannot be reached FOLLOWS", z.follows(0), set(1));
        due("GO to itself HANGS on itself", z.cause(0, 0, 0), 0);
        due("that behind does not", z.causes(1), 0);
    }

    private static void thinLeaveOut() {
        says("THIN leave out: REGISTER b of 7, if it is not a; b of 8; a of 11");
        SliceWhy x = program(l(NUMBER, 0, 1), l(NUMBER, 1, 2), l(PUT, 0, 1, 0), l(PUT, 1, 1, 0), l(GET, 1, 1, 2), l(IF, 1, 0));
        x.points(2, 2);
        due("PUT 0, 1", x.slice(2, 1), set(0, 2));
        due("PUT 1, 1", x.slice(3, 1), set(1, 3));
        due("GET 1, 1", x.slice(4, 1), set(4));
        due("IF", x.slice(5, 1), set(5));
        due("PUT's item", x.slice(1, 3), set(1, 3));
    }

    private static void thinByKindsOneToThree() {
        says("THIN: likewise, by kinds 1, 2, 3 alone");
        SliceWhy x = program(l(NUMBER, 0, 1), l(PUT, 0, 7, 0), l(GET, 1, 7, 0), l(SET, 1, 0), l(IF, 7, 6), l(USE, 2, 0),
            l(ADD, 3, 2, 4));
        due("THIN", x.slice(6, 1), set(0, 1, 2, 3, 5, 6));
        due("BACK", x.slice(6, 0), set(0, 1, 2, 3, 4, 5, 6));
        due("THINLY", x.slice(0, 3), set(0, 1, 2, 3, 5, 6));
        SliceWhy y = program(l(NUMBER, 0, 1), l(NUMBER, 1, 1), l(SHARE, 2, 0, 1), l(PASS));
        due("by two PLACES", y.slice(2, 1), set(0, 1, 2));
        due("not by CONTROL", y.slice(3, 1), set(3));
        y.change(2, NUMBER, 2, 0, 0);
        due("not any more", y.slice(2, 1), set(2));
    }

    private static void hangsThroughTheFirst() {
        says("a way of NEXTS leads from u to v, by PLACE 0, too");
        SliceWhy x = program(l(PASS), l(ADD, 1, 2, 2), l(GET, 3, 7, 0), l(NUMBER, 2, 7), l(PUT, 6, 7, 0), l(GO, 0, 0));
        due("by REGISTER", x.cause(1, 0, 0), 3);
        due("by NAMES", x.cause(2, 0, 0), 4);
        x.change(0, NUMBER, 2, 0, 0);
        due("set there", x.cause(1, 0, 0), 0);
        due("not from before", x.cause(1, 1, 1), 4);
        x.change(0, GET, 3, 7, 0);
        due("got there", x.cause(0, 0, 1), 2);
        due("WAY through it", x.way(0, 4), 2);
    }

    private static void hangsOnItself() {
        says("v HANGS on u (both PLACES, perhaps one)");
        SliceWhy x = program(l(ADD, 0, 0, 0), l(GO, 0, 0));
        due("by REGISTER", x.cause(0, 0, 0), 0);
        due("its kind", x.cause(0, 0, 1), 1);
        x.change(1, PASS, 0, 0, 0);
        due("no way leads back", x.causes(0), 0);
    }

    private static void hangsByOneStep() {
        says("a way of NEXTS leads from u to v (of one or more)");
        SliceWhy x = program(l(NUMBER, 0, 1), l(ADD, 1, 0, 0));
        due("one", x.causes(1), 1);
        due("none", x.causes(0), 0);
        for (int p = 0; p < 22; p++) {
            x.line(p == 21 ? ADD : PASS, 2, 0, 0);
        }
        due("23 of them", x.cause(23, 0, 0), 0);
    }

    private static void hangsPastNoOtherSetter() {
        says("on which no PLACE between SETS it");
        SliceWhy x = program(l(NUMBER, 0, 1), l(IF, 5, 3), l(NUMBER, 0, 2), l(ADD, 0, 0, 0), l(ADD, 1, 0, 0));
        due("v may SET it itself; one way goes round", x.causes(3), 2);
        due("set between on all ways", x.causes(4), 1);
        due("by the one that set it last", x.cause(4, 0, 0), 3);
        SliceWhy y = program(l(SET, 0, 1), l(IF, 5, 3), l(SET, 0, 1), l(USE, 0, 1), l(SET, 0, 1), l(USE, 1, 1));
        due("GLOBAL, one way goes round", y.causes(3), 2);
        due("GLOBAL, set between", y.causes(5), 1);
    }

    private static void hangsByNamesOfOneRow() {
        says("by NAMES (2): their NAMES MAY BE of one same ROW, and a way of NEXTS leads from u to v");
        for (int rows = 1; rows < 16; rows++) {
            SliceWhy x = program(l(GET, 0, 7, 1), l(PUT, 6, 7, 0), l(PUT, 6, 7, 0), l(GET, 0, 7, 1));
            x.points(0, rows);
            x.points(1, 15 & ~rows | (rows == 15 ? 8 : 0));
            due("rows " + rows + ", none of one ROW but of all", x.causes(3), rows == 15 ? 2 : 0);
            x.points(1, rows & -rows);
            due("rows " + rows + ", one of one ROW, past another PUT", x.causes(3), 2);
            due("no way leads back", x.causes(0), 0);
        }
    }

    private static void hangsByControlOfItself() {
        says("By CONTROL (4): where a WIDER NEXT s of u is v, or v FOLLOWS s; and v does not FOLLOW u");
        SliceWhy x = program(l(PASS), l(PASS), l(IF, 0, 0), l(PASS));
        due("s is v", x.cause(0, 0, 0), 2);
        due("v FOLLOWS s", x.cause(1, 0, 0), 2);
        due("v is u, and FOLLOWS s", x.cause(2, 0, 0), 2);
        due("v FOLLOWS u", x.causes(3), 0);
        due("v is u and s", program(l(IF, 0, 0)).causes(0), 1);
        due("IF to that behind", program(l(IF, 0, 1), l(PASS)).causes(1), 0);
    }

    private static void followsNotItself() {
        says("v FOLLOWS u (v is not u): each way of WIDER NEXTS from u to the END goes by v");
        SliceWhy x = program(l(PASS), l(IF, 0, 0), l(PASS), l(PASS));
        due("follows(0)", x.follows(0), set(1, 2, 3));
        due("follows(1)", x.follows(1), set(2, 3));
        due("follows(3)", x.follows(3), 0);
        due("one PLACE", program(l(PASS)).follows(0), 0);
        due("one that goes to the END or on", program(l(IF, 0, 24), l(PASS)).follows(0), 0);
    }

    private static void causesByKinds() {
        says("CAUSES: by their numbers, each as often as there are kinds, by these (by two REGISTERS: once)");
        SliceWhy x = program(l(SHARE, 0, 7, 7), l(NUMBER, 1, 5), l(ADD, 2, 1, 0));
        int[][] want = {{0, 1}, {0, 4}, {1, 1}};
        due("causes(2)", x.causes(2), 3);
        for (int k = 0; k < 3; k++) {
            due("PLACE " + k, x.cause(2, k, 0), want[k][0]);
            due("kind " + k, x.cause(2, k, 1), want[k][1]);
        }
        SliceWhy y = program(l(SET, 0, 2), l(USE, 1, 2));
        y.start(2, 0, true);
        due("by GLOBAL", y.cause(1, 0, 1), 3);
        due("by CONTROL", y.cause(1, 1, 1), 4);
        due("by two REGISTERS", program(l(NUMBER, 0, 1), l(ADD, 1, 0, 0)).causes(1), 1);
    }

    private static void backAndForwardHaveThePlace() {
        says("BACK of v: v, and all that any of these HANG on; FORWARD of u: all whose BACK has u");
        SliceWhy x = program(l(PASS), l(NUMBER, 0, 1), l(ADD, 1, 0, 0), l(ADD, 2, 1, 1));
        due("BACK of what HANGS on none", x.slice(0, 0), 1);
        due("THIN of it", x.slice(0, 1), 1);
        due("FORWARD of it", x.slice(0, 2), 1);
        due("THINLY of it", x.slice(0, 3), 1);
        due("any of these", x.slice(3, 0), set(1, 2, 3));
        due("all whose BACK has it", x.slice(1, 2), set(1, 2, 3));
    }

    private static void wayOfTheLeast() {
        says("A WAY: the fewest; of several at each step the least PLACE that may be");
        SliceWhy x = program(l(NUMBER, 0, 1), l(ADD, 1, 0, 0), l(ADD, 2, 0, 0), l(ADD, 3, 1, 2), l(ADD, 4, 3, 0));
        due("way(3, 0)", x.way(3, 0), 3);
        due("the least between", x.on(1), 1);
        due("way(4, 0)", x.way(4, 0), 2);
        due("the fewest", x.on(1), 0);
        // Both 1 and 2 are CAUSES of 4, but 1 leads to 0 by one more.
        SliceWhy y = program(l(NUMBER, 0, 1), l(GET, 1, 7, 0), l(ADD, 2, 0, 0), l(PUT, 2, 7, 0), l(ADD, 3, 1, 2), l(IF, 7, 1));
        due("way(4, 0)", y.way(4, 0), 3);
        due("the least that may be, not the least", y.on(1), 2);
        SliceWhy z = program(l(ADD, 1, 0, 0), l(NUMBER, 2, 1), l(ADD, 0, 1, 2), l(GO, 0, 0));
        due("way(2, 2)", z.way(2, 2), 1);
        due("by PLACE 0", z.way(0, 1), 3);
        due("on(0)", z.on(0), 0);
        due("on(1)", z.on(1), 2);
        due("on(2)", z.on(2), 1);
    }

    private static void leastFromTheLast() {
        says("LEAST: from its last PLACE down to its first");
        SliceWhy x = program(l(NUMBER, 0, 4), l(PUT, 0, 1, 0), l(PUT, 0, 1, 0), l(GET, 2, 1, 0));
        x.test();
        due("of two alike the last goes", x.least(3), set(0, 1, 3));
    }

    private static void leastNotSpent() {
        says("LEAST: and it is not SPENT");
        SliceWhy x = program(l(INPUT, 0, 0), l(NUMBER, 1, -1), l(IF, 0, 6), l(ADD, 0, 0, 1), l(GO, 0, 2), l(ADD, 2, 0, 0));
        x.input(0, 2);
        x.test();
        // PLACE 5 is never come to. Without 3, 2 or 1 it isn't either, but then the RUN turns till it is SPENT.
        due("least(5)", x.least(5), set(2, 5));
    }

    private static void leastOnceMore() {
        says("LEAST: so once more from the last one, till none went");
        SliceWhy x = program(l(NUMBER, 0, 5), l(TIMES, 0, 0, 1), l(ADD, 2, 0, 0));
        x.test();
        due("PLACE 1 goes in the second round", x.least(2), 4);
    }
}
