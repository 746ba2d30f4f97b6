/** Promises 12 to 18: what HANGS on what, slices, what FOLLOWS, CAUSES, CHOPS, WAYS. */
public final class HangTest extends Checks {
    public static void main(String[] args) {
        registersAreSetBetween();
        aPlaceHangsOnItself();
        waysThroughTheFirstPlace();
        eachKindReadsAndSets();
        namesOfOneRow();
        noPutStandsInTheWay();
        globals();
        failuresLeadToTheEnd();
        goAndStop();
        branches();
        aLoopWithItsTestAtTheEnd();
        oneCauseByTwoKinds();
        thinOnes();
        thinPutOfItsOwnItem();
        forwardOnes();
        chops();
        shortestWays();
        waysAreLeastFromTheirFirst();
        waysStay();
        wrongNumbers();
        staleAnswersGo();
        end("HangTest");
    }

    /** The CAUSES of p are these, {place, kind} by {place, kind}. */
    private static void dueCauses(String what, SliceWhy x, int p, int... want) {
        int n = want.length / 2;
        due(what + ": causes(" + p + ")", x.causes(p), n);
        for (int k = 0; k < n; k++) {
            due(what + ": cause(" + p + ", " + k + ", 0)", x.cause(p, k, 0), want[2 * k]);
            due(what + ": cause(" + p + ", " + k + ", 1)", x.cause(p, k, 1), want[2 * k + 1]);
        }
        due(what + ": one more place", x.cause(p, n, 0), NONE);
        due(what + ": one more kind", x.cause(p, n, 1), NONE);
    }

    private static void registersAreSetBetween() {
        SliceWhy x = program(l(NUMBER, 0, 1), l(NUMBER, 1, 2), l(NUMBER, 0, 3),
            l(ADD, 2, 0, 1), l(ADD, 3, 0, 0));
        dueCauses("set between", x, 3, 1, 1, 2, 1);
        dueCauses("read twice", x, 4, 2, 1);
        dueCauses("reads none", x, 0);
        due("BACK", x.slice(3, 0), set(1, 2, 3));
    }

    private static void aPlaceHangsOnItself() {
        SliceWhy x = program(l(ADD, 0, 0, 0), l(GO, 0, 0));
        dueCauses("a loop", x, 0, 0, 1, 1, 4);
        dueCauses("its jump", x, 1, 1, 4);
        SliceWhy y = program(l(ADD, 0, 0, 0));
        dueCauses("no loop", y, 0);
        SliceWhy z = program(l(IF, 0, 0));
        dueCauses("IF to itself", z, 0, 0, 4);
    }

    private static void waysThroughTheFirstPlace() {
        SliceWhy x = program(l(PASS), l(ADD, 1, 2, 2), l(NUMBER, 2, 7),
            l(GO, 0, 0));
        dueCauses("it leads through", x, 1, 2, 1, 3, 4);
        x.change(0, NUMBER, 2, 0, 0);
        dueCauses("it is set there", x, 1, 0, 1, 3, 4);
        x.change(0, GET, 1, 2, 0);
        x.change(2, PUT, 2, 2, 0);
        dueCauses("it GETS there", x, 0, 2, 2, 3, 4);
    }

    /** PLACES 0 to 2 set r 1, r 2, r 3 (or GLOBAL 1); PLACE 3 is of the kind; PLACE 4 reads r 1. */
    private static void eachKindReadsAndSets() {
        int[] threeRegisters = {ADD, LESS, TIMES};
        for (int kind : threeRegisters) {
            SliceWhy x = reader(l(kind, 1, 2, 3));
            dueCauses("kind " + kind, x, 3, 1, 1, 2, 1);
            dueCauses("behind kind " + kind, x, 4, 3, 1);
        }
        SliceWhy share = reader(l(SHARE, 1, 2, 3));
        dueCauses("SHARE", share, 3, 1, 1, 2, 1);
        dueCauses("behind SHARE", share, 4, 3, 1, 3, 4);
        int[] noRegisters = {NUMBER, INPUT};
        for (int kind : noRegisters) {
            SliceWhy x = reader(l(kind, 1, 2, 3));
            dueCauses("kind " + kind, x, 3);
            dueCauses("behind kind " + kind, x, 4, 3, 1);
        }
        SliceWhy use = reader(l(USE, 1, 2));
        dueCauses("USE", use, 3);
        dueCauses("behind USE", use, 4, 3, 1);
        SliceWhy get = reader(l(GET, 1, 2, 3));
        dueCauses("GET", get, 3, 1, 1);
        dueCauses("behind GET", get, 4, 3, 1);
        SliceWhy put = reader(l(PUT, 1, 2, 3));
        dueCauses("PUT", put, 3, 0, 1, 1, 1);
        dueCauses("behind PUT", put, 4, 0, 1);
        SliceWhy set = reader(l(SET, 1, 2));
        dueCauses("SET", set, 3, 0, 1);
        dueCauses("behind SET", set, 4, 0, 1);
        SliceWhy branch = reader(l(IF, 1, 4));
        dueCauses("IF", branch, 3, 0, 1);
        dueCauses("behind IF", branch, 4, 0, 1);
        int[] others = {PASS, GO};
        for (int kind : others) {
            SliceWhy x = reader(l(kind, 1, 4, 3));
            dueCauses("kind " + kind, x, 3);
            dueCauses("behind kind " + kind, x, 4, 0, 1);
        }
        SliceWhy stop = reader(l(STOP, 1, 2, 3));
        dueCauses("STOP", stop, 3);
        dueCauses("behind STOP", stop, 4, 3, 4);
    }

    private static SliceWhy reader(int[] line) {
        return program(l(NUMBER, 1, 1), l(NUMBER, 2, 2), l(NUMBER, 3, 3), line,
            l(ADD, 4, 1, 1));
    }

    private static void namesOfOneRow() {
        for (int put = 1; put < 16; put++) {
            for (int get = 1; get < 16; get++) {
                SliceWhy x = program(l(GET, 1, 0, 3), l(PUT, 0, 0, 2), l(GET, 1, 0, 3));
                x.points(2, put);
                x.points(3, get);
                boolean one = (put & get) != 0;
                due("GET of " + get + " behind PUT of " + put, x.causes(2), one ? 1 : 0);
                due("its kind", x.cause(2, 0, 1), one ? 2 : NONE);
                due("GET before PUT", x.causes(0), 0);
                due("PUT", x.causes(1), 0);
            }
        }
    }

    private static void noPutStandsInTheWay() {
        SliceWhy x = program(l(PUT, 0, 0, 0), l(PUT, 0, 0, 0), l(GET, 1, 0, 0),
            l(PUT, 1, 0, 0));
        dueCauses("two PUTS", x, 2, 0, 2, 1, 2);
        dueCauses("PUT of what was got", x, 3, 2, 1);
        x.line(GO, 0, 0, 0);
        dueCauses("in a loop", x, 2, 0, 2, 1, 2, 3, 2, 4, 4);
    }

    private static void globals() {
        SliceWhy x = program(l(SET, 0, 1), l(SET, 0, 2), l(SET, 0, 1),
            l(USE, 0, 1), l(USE, 1, 2), l(USE, 2, 3), l(ADD, 3, 1, 2));
        dueCauses("set last", x, 3, 2, 3);
        dueCauses("set first", x, 4, 1, 3);
        dueCauses("not set", x, 5);
        dueCauses("GLOBAL 1 is no REGISTER 1", x, 6, 4, 1, 5, 1);
        for (int g = 0; g < 4; g++) {
            SliceWhy y = program(l(SET, 0, g), l(USE, 1, g), l(ADD, 2, g, g));
            dueCauses("GLOBAL " + g, y, 1, 0, 3);
        }
    }

    private static void failuresLeadToTheEnd() {
        SliceWhy x = program(l(NUMBER, 0, 1), l(SET, 0, 1), l(USE, 1, 1),
            l(PASS));
        due("follows(0)", x.follows(0), set(1, 2, 3));
        dueCauses("no failure", x, 2, 1, 3);
        dueCauses("no failure", x, 3);
        x.start(1, 0, true);
        due("follows(0), failing", x.follows(0), set(1));
        due("follows(2), failing", x.follows(2), 0);
        dueCauses("failing", x, 2, 1, 3, 1, 4);
        dueCauses("failing", x, 3, 2, 4);
        x.start(2, 0, true);
        x.start(1, 0, false);
        due("follows(0), another one fails", x.follows(0), set(1, 2, 3));
        x.change(1, SHARE, 0, 0, 0);
        due("follows(0), SHARE", x.follows(0), set(1));
        dueCauses("behind SHARE", x, 3, 1, 4);
    }

    private static void goAndStop() {
        SliceWhy x = program(l(GO, 0, 2), l(NUMBER, 0, 1), l(ADD, 1, 0, 0),
            l(STOP), l(ADD, 2, 1, 1));
        due("follows(0)", x.follows(0), set(2, 3));
        due("follows(3)", x.follows(3), 0);
        dueCauses("jumped over", x, 1, 0, 4);
        dueCauses("jumped to", x, 2, 1, 1);
        dueCauses("behind STOP", x, 4, 3, 4);
        due("BACK with the jump", x.slice(2, 0), set(0, 1, 2));
        x.change(0, GO, 0, 1, 0);
        dueCauses("a jump to the place behind", x, 1);
        SliceWhy y = program(l(GO, 0, 3), l(PASS), l(PASS), l(PASS));
        dueCauses("jumped over, too", y, 2, 0, 4);
        dueCauses("jumped to", y, 3);
    }

    private static void branches() {
        SliceWhy x = program(l(INPUT, 0, 0), l(IF, 0, 4), l(NUMBER, 1, 1),
            l(GO, 0, 5), l(NUMBER, 1, 2), l(ADD, 2, 1, 1));
        due("follows(0)", x.follows(0), set(1, 5));
        due("follows(1)", x.follows(1), set(5));
        due("follows(2)", x.follows(2), set(3, 5));
        due("follows(5)", x.follows(5), 0);
        dueCauses("IF", x, 1, 0, 1);
        dueCauses("then", x, 2, 1, 4);
        dueCauses("its jump", x, 3, 1, 4);
        dueCauses("else", x, 4, 1, 4, 3, 4);
        dueCauses("behind both", x, 5, 2, 1, 4, 1);
        due("BACK", x.slice(5, 0), 63);
        due("BACK", x.slice(2, 0), set(0, 1, 2));
        due("THIN", x.slice(5, 1), set(2, 4, 5));
    }

    private static void aLoopWithItsTestAtTheEnd() {
        SliceWhy x = program(l(PASS), l(PASS), l(IF, 0, 1), l(PASS));
        dueCauses("before", x, 0);
        dueCauses("in it", x, 1, 2, 4);
        dueCauses("its test", x, 2, 2, 4);
        dueCauses("behind", x, 3);
    }

    private static void oneCauseByTwoKinds() {
        SliceWhy x = program(l(SHARE, 0, 1, 2), l(ADD, 0, 0, 0));
        dueCauses("SHARE", x, 1, 0, 1, 0, 4);
    }

    private static void thinOnes() {
        SliceWhy x = program(l(NUMBER, 0, 1), l(NUMBER, 1, 2), l(PUT, 0, 1, 0),
            l(GET, 2, 1, 0), l(IF, 2, 6), l(SET, 2, 0), l(USE, 3, 0));
        due("BACK of 6", x.slice(6, 0), 127);
        due("THIN of 2", x.slice(2, 1), set(0, 2));
        due("THIN of 3", x.slice(3, 1), set(0, 2, 3));
        due("THIN of 4", x.slice(4, 1), set(4));
        due("THIN of 5", x.slice(5, 1), set(0, 2, 3, 5));
        due("THIN of 6", x.slice(6, 1), set(0, 2, 3, 5, 6));
        due("THINLY of 0", x.slice(0, 3), set(0, 2, 3, 5, 6));
        due("THINLY of 1", x.slice(1, 3), set(1));
        due("THINLY of 4", x.slice(4, 3), set(4));
    }

    private static void thinPutOfItsOwnItem() {
        SliceWhy x = program(l(NUMBER, 1, 2), l(PUT, 1, 1, 0));
        due("b is a", x.slice(1, 1), 3);
        x.change(1, GET, 1, 1, 0);
        due("b of GET is left out in any case", x.slice(1, 1), 2);
        due("not of BACK", x.slice(1, 0), 3);
    }

    private static void forwardOnes() {
        SliceWhy x = program(l(NUMBER, 0, 1), l(IF, 0, 3), l(NUMBER, 1, 2),
            l(ADD, 2, 1, 1), l(ADD, 3, 0, 0));
        due("FORWARD of 0", x.slice(0, 2), 31);
        due("FORWARD of 1", x.slice(1, 2), set(1, 2, 3));
        due("FORWARD of 4", x.slice(4, 2), set(4));
        due("THINLY of 0", x.slice(0, 3), set(0, 4));
        due("THINLY of 2", x.slice(2, 3), set(2, 3));
    }

    private static void chops() {
        SliceWhy x = program(l(NUMBER, 0, 1), l(ADD, 1, 0, 0), l(ADD, 2, 0, 0),
            l(ADD, 3, 1, 4), l(ADD, 5, 2, 3));
        due("chop(0, 4)", x.chop(0, 4), 31);
        due("chop(0, 3)", x.chop(0, 3), set(0, 1, 3));
        due("chop(1, 4)", x.chop(1, 4), set(1, 3, 4));
        due("chop(2, 3)", x.chop(2, 3), 0);
        due("chop(4, 0)", x.chop(4, 0), 0);
        due("chop(2, 2)", x.chop(2, 2), set(2));
    }

    private static void dueWay(SliceWhy x, int v, int u, int... want) {
        String call = "way(" + v + ", " + u + ")";
        due(call, x.way(v, u), want.length);
        for (int k = 0; k < want.length; k++) {
            due(call + ", on(" + k + ")", x.on(k), want[k]);
        }
        due(call + ", behind it", x.on(want.length), NONE);
        due(call + ", before it", x.on(-1), NONE);
        due(call + ", far off", x.on(MAX), NONE);
    }

    private static void shortestWays() {
        SliceWhy x = program(l(NUMBER, 0, 1), l(ADD, 1, 0, 0), l(ADD, 2, 1, 1),
            l(ADD, 3, 1, 2), l(ADD, 4, 2, 3), l(ADD, 5, 0, 4));
        dueWay(x, 5, 0, 5, 0);
        dueWay(x, 5, 1, 5, 4, 2, 1);
        dueWay(x, 4, 0, 4, 2, 1, 0);
        dueWay(x, 3, 0, 3, 1, 0);
        dueWay(x, 2, 2, 2);
        SliceWhy y = new SliceWhy();
        y.line(NUMBER, 0, 1, 0);
        for (int p = 1; p < 24; p++) {
            y.line(ADD, p % 8, (p - 1) % 8, (p - 1) % 8);
        }
        due("24 places", y.way(23, 0), 24);
        due("the last", y.on(23), 0);
        due("before the last", y.on(22), 1);
        y.change(23, GO, 0, 0, 0);
        dueWay(y, 0, 23, 0, 23);
        SliceWhy z = program(l(ADD, 0, 0, 0), l(GO, 0, 0));
        dueWay(z, 0, 0, 0);
        dueWay(z, 0, 1, 0, 1);
    }

    private static void waysAreLeastFromTheirFirst() {
        SliceWhy x = program(l(NUMBER, 0, 1), l(ADD, 1, 0, 0), l(ADD, 2, 0, 0),
            l(ADD, 3, 2, 2), l(ADD, 4, 1, 1), l(ADD, 5, 4, 3));
        dueWay(x, 5, 0, 5, 3, 2, 0);
    }

    private static void waysStay() {
        SliceWhy x = program(l(NUMBER, 0, 1), l(ADD, 1, 0, 0));
        due("no way", x.way(0, 1), NONE);
        due("none yet", x.on(0), NONE);
        dueWay(x, 1, 0, 1, 0);
        due("no way", x.way(0, 1), NONE);
        due("bad", x.way(0, 2), BAD);
        x.drop();
        due("the latest one stays", x.on(0), 1);
        due("with all its places", x.on(1), 0);
    }

    private static void wrongNumbers() {
        SliceWhy x = program(l(NUMBER, 0, 1), l(ADD, 1, 0, 0));
        int[] noPlaces = {-1, -4, 2, 24, 31, 32, MIN, MAX};
        for (int p : noPlaces) {
            for (int way = 0; way < 4; way++) {
                due("slice(" + p + ", " + way + ")", x.slice(p, way), BAD);
            }
            due("follows(" + p + ")", x.follows(p), BAD);
            due("causes(" + p + ")", x.causes(p), BAD);
            due("cause(" + p + ", 0, 0)", x.cause(p, 0, 0), BAD);
            due("chop(" + p + ", 0)", x.chop(p, 0), BAD);
            due("chop(0, " + p + ")", x.chop(0, p), BAD);
            due("way(" + p + ", 0)", x.way(p, 0), BAD);
            due("way(0, " + p + ")", x.way(0, p), BAD);
        }
        due("slice(1, -1)", x.slice(1, -1), BAD);
        due("slice(1, 4)", x.slice(1, 4), BAD);
        due("cause(1, 0, 2)", x.cause(1, 0, 2), BAD);
        due("cause(1, 0, -1)", x.cause(1, 0, -1), BAD);
        due("cause(1, 5, 2)", x.cause(1, 5, 2), BAD);
        due("cause(1, -1, 0)", x.cause(1, -1, 0), BAD);
        due("cause(1, max, 0)", x.cause(1, MAX, 0), NONE);
    }

    private static void staleAnswersGo() {
        SliceWhy x = program(l(PUT, 0, 0, 0), l(GET, 1, 0, 1), l(USE, 2, 0));
        due("at first", x.slice(1, 0), 3);
        x.points(1, 2);
        due("after points", x.slice(1, 0), 2);
        x.points(0, 3);
        due("after points again", x.slice(1, 0), 3);
        x.line(PASS, 0, 0, 0);
        due("after line", x.slice(3, 0), 8);
        x.start(0, 0, true);
        due("after start", x.slice(3, 0), 12);
        x.drop();
        due("after drop", x.slice(2, 2), 4);
        x.change(0, PASS, 0, 0, 0);
        due("after change", x.slice(1, 0), 2);
    }
}
