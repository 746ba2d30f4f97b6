/** Promise 22, with 20 and 21: LEAST ones that TESTS still agree on. */
public final class LeastTest extends Checks {
    public static void main(String[] args) {
        whenThereIsNone();
        eachTestCounts();
        testsKeepTheirInputs();
        onceMoreFromTheLast();
        whatIsSpentDoesNotGo();
        wholeSpent();
        failuresAreTold();
        pointsAndStartsAreAsNow();
        fromTheLastDown();
        end("LeastTest");
    }

    /** r 2 becomes 10, but 0 where INPUT 0 is 0. */
    private static SliceWhy branch() {
        return program(l(INPUT, 0, 0), l(IF, 0, 3), l(NUMBER, 1, 5),
            l(ADD, 2, 1, 1));
    }

    private static void whenThereIsNone() {
        SliceWhy x = branch();
        due("no test", x.least(3), STATE);
        due("no place", x.least(4), BAD);
        due("no place", x.least(-1), BAD);
        x.test();
        due("no place", x.least(4), BAD);
        due("a test", x.least(3), 8);
        x.untest();
        due("no test any more", x.least(3), STATE);
    }

    private static void eachTestCounts() {
        SliceWhy x = branch();
        x.test();
        due("0", x.least(3), set(3));
        x.input(0, 1);
        x.test();
        due("0, 1", x.least(3), 15);
        x.untest();
        x.test();
        due("1", x.least(3), set(2, 3));
        x.input(0, -1);
        x.test();
        due("1, -1", x.least(3), set(2, 3));
        x.input(0, 0);
        x.test();
        due("1, -1, 0", x.least(3), 15);
    }

    private static void testsKeepTheirInputs() {
        SliceWhy x = branch();
        x.input(0, 1);
        x.test();
        x.input(0, 0);
        due("as it was", x.least(3), set(2, 3));
        x.run(NONE, 3);
        due("the inputs are as they were", x.saw(0), 0);
        SliceWhy y = program(l(INPUT, 0, 1), l(INPUT, 1, 2), l(ADD, 2, 0, 1));
        y.input(1, 4);
        y.input(2, 5);
        y.test();
        due("all inputs are kept", y.least(2), 7);
    }

    private static void onceMoreFromTheLast() {
        // Without PLACE 0 it is 0 in any case, but PLACE 1 is looked at before that.
        SliceWhy x = program(l(NUMBER, 0, 5), l(TIMES, 0, 0, 1), l(ADD, 2, 0, 0));
        x.test();
        due("BACK", x.slice(2, 0), 7);
        due("least", x.least(2), 4);
    }

    private static void whatIsSpentDoesNotGo() {
        SliceWhy x = program(l(INPUT, 0, 0), l(NUMBER, 1, -1), l(IF, 0, 6),
            l(ADD, 0, 0, 1), l(GO, 0, 2), l(ADD, 2, 0, 0));
        x.input(0, 2);
        x.test();
        due("BACK", x.slice(5, 0), 63);
        due("least", x.least(5), set(2, 5));
    }

    private static void wholeSpent() {
        SliceWhy x = program(l(INPUT, 0, 0), l(IF, 0, 1));
        x.input(0, 1);
        x.test();
        due("it ends", x.least(0), 1);
        x.input(0, 0);
        x.test();
        due("it is spent in the second", x.least(0), STATE);
        x.input(0, 1);
        x.test();
        due("and not in the third", x.least(0), STATE);
        due("the tests stay", x.untest(), 3);
    }

    private static void failuresAreTold() {
        SliceWhy x = program(l(INPUT, 0, 0), l(NUMBER, 1, 3), l(SHARE, 2, 1, 0));
        x.test();
        due("it fails", x.least(2), 4);
        x.input(0, 1);
        x.test();
        due("it fails in one", x.least(2), 7);
    }

    private static void pointsAndStartsAreAsNow() {
        SliceWhy x = program(l(NUMBER, 0, 4), l(PUT, 0, 1, 0), l(GET, 2, 1, 1));
        x.points(0, 3);
        x.input(3, 1);
        x.test();
        due("another row by INPUT 3", x.least(2), 4);
        x.points(1, 2);
        due("the same row", x.least(2), 7);
        SliceWhy y = program(l(NUMBER, 0, 4), l(SET, 0, 0), l(USE, 1, 0));
        y.test();
        due("starts with 0", y.least(2), 7);
        y.start(0, 4, false);
        due("starts with 4", y.least(2), set(2));
    }

    /** Either of two PLACES that do the same may go; it is the last one. */
    private static void fromTheLastDown() {
        SliceWhy x = program(l(NUMBER, 0, 4), l(NUMBER, 1, 2), l(PUT, 0, 1, 0),
            l(PUT, 0, 1, 0), l(GET, 2, 1, 0));
        x.test();
        due("BACK", x.slice(4, 0), 31);
        due("least", x.least(4), set(0, 2, 4));
        // The last PLACE of all is one of BACK, too, where a loop leads from it to p.
        SliceWhy y = program(l(ADD, 0, 0, 1), l(INPUT, 2, 0), l(IF, 2, 5),
            l(NUMBER, 1, 6), l(GO, 0, 0));
        y.test();
        due("BACK", y.slice(0, 0), 31);
        due("least", y.least(0), 1);
    }
}
