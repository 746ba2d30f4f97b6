/** Promises 8 to 11, 19, 22: each sentence that names an edge has a test of its own here. */
public final class RunEdgeTest extends Checks {
    public static void main(String[] args) {
        runOfTheWhole();
        runOfASlice();
        runToTheEnd();
        runThatFailed();
        runThatIsSpent();
        runOfNoPlace();
        runWatchingNoPlace();
        seenBeforeARun();
        seenFromNeverToAlways();
        seenInTheLatestRun();
        sawAnyNumber();
        sawNotSoOften();
        sawBeforeARun();
        leftSteps();
        leftThePlaceThatFailed();
        leftRegisters();
        leftBeforeARun();
        leftOfAnotherWhat();
        sameInBoth();
        sameWithInputsAsNow();
        sameWhereTheWholeIsSpent();
        sameOfNoPlace();
        sameLeavesTheLatestRun();
        leastOfNoPlace();
        leastWithoutTest();
        leastWhereTheWholeIsSpent();
        leastKeepsItsPlace();
        leastAsTheWholeTells();
        leastOfOnePlaceAndOfMany();
        end("RunEdgeTest");
    }

    /** It does so many STEPS, 4 or more, and comes to its last PLACE, which is this one, then. */
    private static SliceWhy after(int steps, int... last) {
        int first = (steps - 1) % 3;
        SliceWhy x = new SliceWhy();
        for (int p = 0; p < first; p++) {
            x.line(PASS, 0, 0, 0);
        }
        x.line(INPUT, 0, 0, 0);
        x.line(NUMBER, 1, -1, 0);
        x.line(ADD, 0, 0, 1);
        x.line(IF, 0, first + 5, 0);
        x.line(GO, 0, first + 2, 0);
        int[] l = java.util.Arrays.copyOf(last, 4);
        x.line(l[0], l[1], l[2], l[3]);
        x.input(0, (steps - 1) / 3);
        return x;
    }

    private static int last(SliceWhy x) {
        return x.count(0) - 1;
    }

    private static void runOfTheWhole() {
        says("8 A RUN of the whole (of NONE)");
        SliceWhy x = program(l(NUMBER, 0, 1), l(NUMBER, 1, 2));
        due("run(NONE, 0)", x.run(NONE, 0), 0);
        due("all are run", x.left(0), 2);
    }

    private static void runOfASlice() {
        says("8 or of BACK of a PLACE (of)");
        SliceWhy x = program(l(NUMBER, 0, 1), l(NUMBER, 1, 2), l(ADD, 2, 0, 0), l(ADD, 3, 1, 1));
        due("of the first", x.run(0, 0), 0);
        due("steps", x.left(0), 1);
        due("of the last", x.run(3, 3), 0);
        due("steps", x.left(0), 2);
        due("saw", x.saw(0), 4);
        due("what is not in it is not set", x.left(2), 0);
        due("BACK of one, watching another", x.run(2, 0), 0);
        due("saw", x.saw(0), 1);
    }

    private static void runToTheEnd() {
        says("8 0 it came to the END");
        int[][] endings = {{PASS}, {STOP}, {GO, 0, 24}, {GO, 0, 1}, {IF, 0, 24}, {IF, 0, 1}, {USE, 0, 0}};
        for (int[] one : endings) {
            due("kind " + one[0], program(one).run(NONE, 0), 0);
        }
        due("after 100 STEPS", after(99, PASS).run(NONE, 0), 0);
    }

    private static void runThatFailed() {
        says("8 1 FAILED");
        due("at the first", program(l(SHARE, 0, 0, 0), l(PASS)).run(NONE, 1), 1);
        due("at the last", program(l(PASS), l(SHARE, 0, 0, 0)).run(NONE, 0), 1);
        SliceWhy x = after(99, SHARE, 2, 2, 2);
        due("at the 100th STEP", x.run(NONE, 0), 1);
        due("steps", x.left(0), 100);
        due("of a slice", x.run(last(x), 0), 1);
    }

    private static void runThatIsSpent() {
        says("8 2 SPENT");
        SliceWhy x = after(100, PASS);
        due("the 101st is come to", x.run(NONE, 0), 2);
        x.drop();
        due("the END is come to", x.run(NONE, 0), 0);
        due("it would FAIL as the 101st", after(100, SHARE, 2, 2, 2).run(NONE, 0), 2);
        due("it would STOP as the 101st", after(100, STOP).run(NONE, 0), 2);
        SliceWhy y = after(100, NUMBER, 7, 7);
        due("what is not in a slice is no 101st", y.run(last(y) - 1, 0), 0);
        due("what is in a slice is one", program(l(GO, 0, 0)).run(0, 0), 2);
    }

    private static void runOfNoPlace() {
        says("8 BAD: of");
        SliceWhy x = program(l(PASS), l(PASS));
        int[] wrong = {-1, -2, -3, -5, 2, 24, MIN, MAX};
        for (int of : wrong) {
            due("run(" + of + ", 0)", x.run(of, 0), BAD);
        }
        due("count(2)", x.count(2), 0);
        due("run(1, 0)", x.run(1, 0), 0);
        x.drop();
        due("of one that went", x.run(1, 0), BAD);
    }

    private static void runWatchingNoPlace() {
        says("8 BAD: w");
        SliceWhy x = program(l(PASS), l(PASS));
        int[] wrong = {-1, NONE, 2, 24, MIN, MAX};
        for (int w : wrong) {
            due("run(NONE, " + w + ")", x.run(NONE, w), BAD);
            due("run(0, " + w + ")", x.run(0, w), BAD);
        }
        due("count(2)", x.count(2), 0);
        due("seen()", x.seen(), 0);
        due("run(NONE, 1)", x.run(NONE, 1), 0);
        due("an empty program", new SliceWhy().run(NONE, 0), BAD);
    }

    private static void seenBeforeARun() {
        says("9 0 before one");
        SliceWhy x = program(l(PASS));
        due("seen()", x.seen(), 0);
        x.same(0);
        x.test();
        x.least(0);
        x.run(NONE, 1);
        due("seen() after others", x.seen(), 0);
    }

    private static void seenFromNeverToAlways() {
        says("9 How often the latest run() came to the PLACE it watched");
        SliceWhy x = program(l(GO, 0, 2), l(NUMBER, 0, 1), l(PASS));
        x.run(NONE, 1);
        due("never", x.seen(), 0);
        x.run(NONE, 2);
        due("once", x.seen(), 1);
        SliceWhy y = program(l(GO, 0, 0));
        y.run(NONE, 0);
        due("at each of 100 STEPS", y.seen(), 100);
        SliceWhy z = after(99, SHARE, 2, 2, 2);
        z.run(NONE, last(z));
        due("the one that failed", z.seen(), 1);
        SliceWhy spent = after(100, PASS);
        spent.run(NONE, last(spent));
        due("the one that was no STEP any more", spent.seen(), 0);
    }

    private static void seenInTheLatestRun() {
        says("9 the latest run()");
        SliceWhy x = program(l(GO, 0, 0));
        x.run(NONE, 0);
        x.change(0, NUMBER, 0, 3, 0);
        due("a change leaves it", x.seen(), 100);
        x.run(NONE, 1);
        due("a BAD one leaves it", x.seen(), 100);
        x.run(NONE, 0);
        due("another one", x.seen(), 1);
        due("what it told", x.saw(0), 3);
        due("what the one before told", x.saw(1), 0);
        x.drop();
        due("a drop leaves it", x.seen(), 1);
    }

    private static void sawAnyNumber() {
        says("10 What that TOLD the k-th time (0 ..; any number)");
        int[] any = {MIN, -4, -1, 0, 1, MAX};
        for (int b : any) {
            SliceWhy x = program(l(NUMBER, 0, b));
            x.run(NONE, 0);
            due("saw(0)", x.saw(0), b);
            due("seen()", x.seen(), 1);
        }
        SliceWhy y = program(l(NUMBER, 1, 1), l(ADD, 0, 0, 1), l(GO, 0, 1));
        y.run(NONE, 1);
        due("seen()", y.seen(), 50);
        for (int k = 0; k < 50; k++) {
            due("saw(" + k + ")", y.saw(k), k + 1);
        }
    }

    private static void sawNotSoOften() {
        says("10 0: not so often");
        SliceWhy x = program(l(NUMBER, 0, 5));
        x.run(NONE, 0);
        int[] none = {1, 2, 99, 100, 101, MAX, -1, MIN};
        for (int k : none) {
            due("saw(" + k + ")", x.saw(k), 0);
        }
        SliceWhy y = program(l(NUMBER, 0, 5), l(IF, 1, 0));
        y.run(NONE, 0);
        due("the last time", y.saw(49), 5);
        due("behind it", y.saw(50), 0);
        y.change(1, PASS, 0, 0, 0);
        y.run(NONE, 0);
        due("nothing of the run before", y.saw(1), 0);
        SliceWhy full = program(l(IF, 0, 0));
        full.run(NONE, 0);
        due("the 100th time", full.saw(99), 1);
        due("behind it", full.saw(100), 0);
    }

    private static void sawBeforeARun() {
        says("10 0: not so often, before a run()");
        SliceWhy x = program(l(NUMBER, 0, 5));
        due("saw(0)", x.saw(0), 0);
        due("same", x.same(0), 1);
        due("saw(0) behind same()", x.saw(0), 0);
    }

    private static void leftSteps() {
        says("11 what = 0 STEPS");
        SliceWhy x = program(l(NUMBER, 0, 1), l(STOP), l(NUMBER, 1, 2));
        x.run(NONE, 0);
        due("to a STOP", x.left(0), 2);
        x.run(0, 0);
        due("of a slice", x.left(0), 1);
        SliceWhy y = after(100, PASS);
        y.run(NONE, 0);
        due("SPENT", y.left(0), 100);
        SliceWhy z = program(l(SHARE, 0, 0, 0), l(PASS));
        z.run(NONE, 0);
        due("the one that failed is one", z.left(0), 1);
    }

    private static void leftThePlaceThatFailed() {
        says("11 1 the PLACE that FAILED (NONE)");
        SliceWhy x = program(l(INPUT, 0, 0), l(SHARE, 1, 0, 0), l(SHARE, 1, 1, 2));
        x.run(NONE, 0);
        due("the first that fails", x.left(1), 1);
        x.input(0, 6);
        x.run(NONE, 0);
        due("the last", x.left(1), 2);
        x.run(0, 0);
        due("NONE again", x.left(1), NONE);
        SliceWhy y = program(l(SHARE, 0, 0, 0));
        y.run(NONE, 0);
        due("PLACE 0", y.left(1), 0);
        SliceWhy z = after(100, SHARE, 2, 2, 2);
        z.run(NONE, 0);
        due("SPENT: NONE", z.left(1), NONE);
    }

    private static void leftRegisters() {
        says("11 2 .. 9 REGISTERS 0 .. 7 at the end (any number)");
        int[] any = {MIN, -4, -3, -2, -1, 1, 2, MAX};
        SliceWhy x = new SliceWhy();
        for (int r = 0; r < 8; r++) {
            x.line(NUMBER, r, any[r], 0);
        }
        x.run(NONE, 0);
        for (int r = 0; r < 8; r++) {
            due("left(" + (2 + r) + ")", x.left(2 + r), any[r]);
        }
        x.run(0, 0);
        due("of a slice", x.left(2), MIN);
        due("what it has not set", x.left(9), 0);
        SliceWhy y = program(l(NUMBER, 3, 9), l(SHARE, 3, 3, 0), l(NUMBER, 3, 4));
        y.run(NONE, 0);
        due("where it failed", y.left(5), 9);
    }

    private static void leftBeforeARun() {
        says("11 0 (1: NONE) before one");
        SliceWhy x = program(l(SHARE, 0, 0, 0));
        x.same(0);
        x.run(0, 1);
        for (int what = -1; what <= 10; what++) {
            due("left(" + what + ")", x.left(what), what == 1 ? NONE : 0);
        }
    }

    private static void leftOfAnotherWhat() {
        says("11 0 for another what");
        SliceWhy x = program(l(NUMBER, 0, 6), l(NUMBER, 7, 6), l(SHARE, 0, 0, 1));
        x.run(NONE, 0);
        int[] others = {-1, 10, 11, MIN, MIN + 1, MAX};
        for (int what : others) {
            due("left(" + what + ")", x.left(what), 0);
        }
        due("the least", x.left(0), 3);
        due("the greatest", x.left(9), 6);
    }

    private static void sameInBoth() {
        says("19 1 p TELLS the same in both");
        due("one PLACE", program(l(PASS)).same(0), 1);
        SliceWhy never = program(l(STOP), l(NUMBER, 0, 1));
        due("never come to in either", never.same(1), 1);
        SliceWhy fails = program(l(NUMBER, 0, 1), l(SHARE, 1, 0, 2));
        due("it FAILS in both", fails.same(1), 1);
        SliceWhy full = after(99, PASS);
        due("the whole does 100 STEPS", full.same(last(full) - 1), 1);
    }

    private static void sameWithInputsAsNow() {
        says("19 with INPUTS as now");
        SliceWhy x = after(100, PASS);
        x.run(NONE, 0);
        due("SPENT with these", x.same(0), 2);
        x.input(0, 1);
        due("not with these", x.same(0), 1);
        x.test();
        x.input(0, 50);
        due("whatever TESTS there are", x.same(0), 2);
    }

    private static void sameWhereTheWholeIsSpent() {
        says("19 2 the whole is SPENT");
        SliceWhy x = program(l(NUMBER, 0, 1), l(GO, 0, 1));
        due("the slice is not", x.run(0, 0), 0);
        due("same(0)", x.same(0), 2);
        due("same(1)", x.same(1), 2);
        due("the 101st", after(100, PASS).same(0), 2);
        due("the 100th", after(99, PASS).same(0), 1);
    }

    private static void sameOfNoPlace() {
        says("19 BAD");
        SliceWhy x = program(l(GO, 0, 0));
        int[] wrong = {-1, NONE, 1, 24, MIN, MAX};
        for (int p : wrong) {
            due("same(" + p + ")", x.same(p), BAD);
        }
        due("an empty program", new SliceWhy().same(0), BAD);
    }

    private static void sameLeavesTheLatestRun() {
        says("19 (The latest run() stays.)");
        SliceWhy x = program(l(INPUT, 0, 0), l(SHARE, 1, 0, 0), l(GO, 0, 3));
        x.input(0, 4);
        due("run", x.run(NONE, 1), 0);
        x.input(0, 0);
        due("same", x.same(2), 1);
        due("seen()", x.seen(), 1);
        due("saw(0)", x.saw(0), 1);
        due("left(0)", x.left(0), 3);
        due("left(1)", x.left(1), NONE);
        due("left(2)", x.left(2), 4);
        due("count(2)", x.count(2), 1);
        x.change(2, GO, 0, 2, 0);
        x.input(0, 1);
        due("SPENT", x.same(2), 2);
        due("left(0)", x.left(0), 3);
    }

    private static void leastOfNoPlace() {
        says("22 BAD");
        SliceWhy x = program(l(PASS), l(PASS));
        int[] wrong = {-1, NONE, 2, 24, MIN, MAX};
        for (int p : wrong) {
            due("least(" + p + ") without a TEST", x.least(p), BAD);
        }
        x.test();
        for (int p : wrong) {
            due("least(" + p + ")", x.least(p), BAD);
        }
        due("least(1)", x.least(1), 2);
        x.change(0, GO, 0, 0, 0);
        due("the whole is SPENT, too", x.least(2), BAD);
        due("an empty program", new SliceWhy().least(0), BAD);
    }

    private static void leastWithoutTest() {
        says("22 STATE: no TEST");
        SliceWhy x = program(l(PASS));
        due("at first", x.least(0), STATE);
        x.test();
        due("with one", x.least(0), 1);
        x.untest();
        due("none any more", x.least(0), STATE);
    }

    private static void leastWhereTheWholeIsSpent() {
        says("22 STATE: or the whole is SPENT in one");
        for (int which = 0; which < 3; which++) {
            SliceWhy x = program(l(NUMBER, 1, 7), l(INPUT, 0, 0), l(IF, 0, 2));
            for (int t = 0; t < 3; t++) {
                x.input(0, t == which ? 0 : 1);
                x.test();
            }
            x.input(0, 1);
            due("in TEST " + which, x.least(0), STATE);
            due("count(1)", x.count(1), 3);
            x.untest();
            x.test();
            due("in none", x.least(0), 1);
            x.input(0, 0);
            due("with INPUTS that are no TEST", x.least(0), 1);
        }
        SliceWhy y = after(99, PASS);
        y.test();
        due("100 STEPS", y.least(0), 1);
        y.line(PASS, 0, 0, 0);
        due("one more", y.least(0), STATE);
    }

    private static void leastKeepsItsPlace() {
        says("LEAST: p left out");
        SliceWhy x = program(l(STOP), l(NUMBER, 0, 5));
        x.test();
        // PLACE 1 tells nothing, in the whole and if it went itself.
        due("p is never come to", x.least(1), 3);
        SliceWhy y = program(l(GO, 0, 2), l(NUMBER, 0, 5), l(PASS));
        y.test();
        due("p is jumped over", y.least(1), 3);
        due("p is PASS", y.least(2), 4);
    }

    private static void leastAsTheWholeTells() {
        says("LEAST: p TELLS the same in each TEST as in the whole");
        SliceWhy often = program(l(NUMBER, 2, 1), l(PASS), l(LESS, 1, 0, 2), l(ADD, 0, 0, 2), l(IF, 1, 6), l(GO, 0, 1), l(PASS));
        often.test();
        due("BACK", often.slice(1, 0), set(0, 1, 2, 3, 4, 5));
        // PLACE 1 tells 0 each time, but how often it does so is to stay, too.
        often.run(NONE, 1);
        due("seen", often.seen(), 2);
        due("least", often.least(1), set(0, 1, 2, 3, 4, 5));
        SliceWhy once = program(l(NUMBER, 0, 5), l(NUMBER, 1, 0), l(ADD, 2, 0, 1));
        once.test();
        due("adding 0 tells the same", once.least(2), set(0, 2));
    }

    private static void leastOfOnePlaceAndOfMany() {
        says("22 LEAST of p");
        SliceWhy one = program(l(NUMBER, 0, 5));
        one.test();
        due("one PLACE", one.least(0), 1);
        SliceWhy many = new SliceWhy();
        many.line(NUMBER, 0, 1, 0);
        for (int p = 1; p < 24; p++) {
            many.line(ADD, 0, 0, 0);
        }
        many.test();
        due("all 24 are needed", many.least(23), (1 << 24) - 1);
        many.change(0, NUMBER, 0, 0, 0);
        due("the last alone", many.least(23), 1 << 23);
    }
}
