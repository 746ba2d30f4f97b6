/** Promise 22, with 20 and 21: LEAST ones that TESTS still agree on. */
public final class LeastTest {
    public static void main(String[] args) {
        whenThereIsNone();
        eachTestCounts();
        testsKeepTheirInputs();
        onceMoreFromTheLast();
        whatIsSpentDoesNotGo();
        wholeSpent();
        failuresAreTold();
        pointsAndStartsAreAsNow();
        fromTheLastDown();
        Checks.end("LeastTest");
    }

    /** r 2 becomes 10, but 0 where INPUT 0 is 0. */
    private static SliceWhy branch() {
        return Checks.program(Checks.l(Checks.INPUT, 0, 0), Checks.l(Checks.IF, 0, 3), Checks.l(Checks.NUMBER, 1, 5),
            Checks.l(Checks.ADD, 2, 1, 1));
    }

    private static void whenThereIsNone() {
        SliceWhy x = branch();
        Checks.due("no test", x.least(3), Checks.STATE);
        Checks.due("no place", x.least(4), Checks.BAD);
        Checks.due("no place", x.least(-1), Checks.BAD);
        x.test();
        Checks.due("no place", x.least(4), Checks.BAD);
        Checks.due("a test", x.least(3), 8);
        x.untest();
        Checks.due("no test any more", x.least(3), Checks.STATE);
    }

    private static void eachTestCounts() {
        SliceWhy x = branch();
        x.test();
        Checks.due("0", x.least(3), Checks.set(3));
        x.input(0, 1);
        x.test();
        Checks.due("0, 1", x.least(3), 15);
        x.untest();
        x.test();
        Checks.due("1", x.least(3), Checks.set(2, 3));
        x.input(0, -1);
        x.test();
        Checks.due("1, -1", x.least(3), Checks.set(2, 3));
        x.input(0, 0);
        x.test();
        Checks.due("1, -1, 0", x.least(3), 15);
    }

    private static void testsKeepTheirInputs() {
        SliceWhy x = branch();
        x.input(0, 1);
        x.test();
        x.input(0, 0);
        Checks.due("as it was", x.least(3), Checks.set(2, 3));
        x.run(Checks.NONE, 3);
        Checks.due("the inputs are as they were", x.saw(0), 0);
        SliceWhy y = Checks.program(Checks.l(Checks.INPUT, 0, 1), Checks.l(Checks.INPUT, 1, 2), Checks.l(Checks.ADD, 2, 0, 1));
        y.input(1, 4);
        y.input(2, 5);
        y.test();
        Checks.due("all inputs are kept", y.least(2), 7);
    }

    private static void onceMoreFromTheLast() {
        // Without PLACE 0 it is 0 in any case, but PLACE 1 is looked at before that.
        SliceWhy x = Checks.program(Checks.l(Checks.NUMBER, 0, 5), Checks.l(Checks.TIMES, 0, 0, 1), Checks.l(Checks.ADD, 2, 0, 0));
        x.test();
        Checks.due("BACK", x.slice(2, 0), 7);
        Checks.due("least", x.least(2), 4);
    }

    private static void whatIsSpentDoesNotGo() {
        SliceWhy x = Checks.program(Checks.l(Checks.INPUT, 0, 0), Checks.l(Checks.NUMBER, 1, -1), Checks.l(Checks.IF, 0, 6),
            Checks.l(Checks.ADD, 0, 0, 1), Checks.l(Checks.GO, 0, 2), Checks.l(Checks.ADD, 2, 0, 0));
        x.input(0, 2);
        x.test();
        Checks.due("BACK", x.slice(5, 0), 63);
        Checks.due("least", x.least(5), Checks.set(2, 5));
    }

    private static void wholeSpent() {
        SliceWhy x = Checks.program(Checks.l(Checks.INPUT, 0, 0), Checks.l(Checks.IF, 0, 1));
        x.input(0, 1);
        x.test();
        Checks.due("it ends", x.least(0), 1);
        x.input(0, 0);
        x.test();
        Checks.due("it is spent in the second", x.least(0), Checks.STATE);
        x.input(0, 1);
        x.test();
        Checks.due("and not in the third", x.least(0), Checks.STATE);
        Checks.due("the tests stay", x.untest(), 3);
    }

    private static void failuresAreTold() {
        SliceWhy x = Checks.program(Checks.l(Checks.INPUT, 0, 0), Checks.l(Checks.NUMBER, 1, 3), Checks.l(Checks.SHARE, 2, 1, 0));
        x.test();
        Checks.due("it fails", x.least(2), 4);
        x.input(0, 1);
        x.test();
        Checks.due("it fails in one", x.least(2), 7);
    }

    private static void pointsAndStartsAreAsNow() {
        SliceWhy x = Checks.program(Checks.l(Checks.NUMBER, 0, 4), Checks.l(Checks.PUT, 0, 1, 0), Checks.l(Checks.GET, 2, 1, 1));
        x.points(0, 3);
        x.input(3, 1);
        x.test();
        Checks.due("another row by INPUT 3", x.least(2), 4);
        x.points(1, 2);
        Checks.due("the same row", x.least(2), 7);
        SliceWhy y = Checks.program(Checks.l(Checks.NUMBER, 0, 4), Checks.l(Checks.SET, 0, 0), Checks.l(Checks.USE, 1, 0));
        y.test();
        Checks.due("starts with 0", y.least(2), 7);
        y.start(0, 4, false);
        Checks.due("starts with 4", y.least(2), Checks.set(2));
    }

    /** Either of two PLACES that do the same may go; it is the last one. */
    private static void fromTheLastDown() {
        SliceWhy x = Checks.program(Checks.l(Checks.NUMBER, 0, 4), Checks.l(Checks.NUMBER, 1, 2), Checks.l(Checks.PUT, 0, 1, 0),
            Checks.l(Checks.PUT, 0, 1, 0), Checks.l(Checks.GET, 2, 1, 0));
        x.test();
        Checks.due("BACK", x.slice(4, 0), 31);
        Checks.due("least", x.least(4), Checks.set(0, 2, 4));
        // The last PLACE of all is one of BACK, too, where a loop leads from it to p.
        SliceWhy y = Checks.program(Checks.l(Checks.ADD, 0, 0, 1), Checks.l(Checks.INPUT, 2, 0), Checks.l(Checks.IF, 2, 5),
            Checks.l(Checks.NUMBER, 1, 6), Checks.l(Checks.GO, 0, 0));
        y.test();
        Checks.due("BACK", y.slice(0, 0), 31);
        Checks.due("least", y.least(0), 1);
    }
}
