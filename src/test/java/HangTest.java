/** Promises 12 to 18: what HANGS on what, slices, what FOLLOWS, CAUSES, CHOPS, WAYS. */
public final class HangTest {
    public static void main(String[] args) {
        registersAreSetBetween();
        aPlaceHangsOnItself();
        waysThroughTheFirstPlace();
        eachKindReadsAndSets();
        namesOfOneRow();
        noPutStandsInTheWay();
        globals();
        failuresLeadToTheEnd();
        goAndStop();
        branches();
        aLoopWithItsTestAtTheEnd();
        oneCauseByTwoKinds();
        thinOnes();
        thinPutOfItsOwnItem();
        forwardOnes();
        chops();
        shortestWays();
        waysAreLeastFromTheirFirst();
        waysStay();
        wrongNumbers();
        staleAnswersGo();
        Checks.end("HangTest");
    }

    /** The CAUSES of p are these, {place, kind} by {place, kind}. */
    private static void dueCauses(String what, SliceWhy x, int p, int... want) {
        int n = want.length / 2;
        Checks.due(what + ": causes(" + p + ")", x.causes(p), n);
        for (int k = 0; k < n; k++) {
            Checks.due(what + ": cause(" + p + ", " + k + ", 0)", x.cause(p, k, 0), want[2 * k]);
            Checks.due(what + ": cause(" + p + ", " + k + ", 1)", x.cause(p, k, 1), want[2 * k + 1]);
        }
        Checks.due(what + ": one more place", x.cause(p, n, 0), Checks.NONE);
        Checks.due(what + ": one more kind", x.cause(p, n, 1), Checks.NONE);
    }

    private static void registersAreSetBetween() {
        SliceWhy x = Checks.program(Checks.l(Checks.NUMBER, 0, 1), Checks.l(Checks.NUMBER, 1, 2), Checks.l(Checks.NUMBER, 0, 3),
            Checks.l(Checks.ADD, 2, 0, 1), Checks.l(Checks.ADD, 3, 0, 0));
        dueCauses("set between", x, 3, 1, 1, 2, 1);
        dueCauses("read twice", x, 4, 2, 1);
        dueCauses("reads none", x, 0);
        Checks.due("BACK", x.slice(3, 0), Checks.set(1, 2, 3));
    }

    private static void aPlaceHangsOnItself() {
        SliceWhy x = Checks.program(Checks.l(Checks.ADD, 0, 0, 0), Checks.l(Checks.GO, 0, 0));
        dueCauses("a loop", x, 0, 0, 1, 1, 4);
        dueCauses("its jump", x, 1, 1, 4);
        SliceWhy y = Checks.program(Checks.l(Checks.ADD, 0, 0, 0));
        dueCauses("no loop", y, 0);
        SliceWhy z = Checks.program(Checks.l(Checks.IF, 0, 0));
        dueCauses("IF to itself", z, 0, 0, 4);
    }

    private static void waysThroughTheFirstPlace() {
        SliceWhy x = Checks.program(Checks.l(Checks.PASS), Checks.l(Checks.ADD, 1, 2, 2), Checks.l(Checks.NUMBER, 2, 7),
            Checks.l(Checks.GO, 0, 0));
        dueCauses("it leads through", x, 1, 2, 1, 3, 4);
        x.change(0, Checks.NUMBER, 2, 0, 0);
        dueCauses("it is set there", x, 1, 0, 1, 3, 4);
        x.change(0, Checks.GET, 1, 2, 0);
        x.change(2, Checks.PUT, 2, 2, 0);
        dueCauses("it GETS there", x, 0, 2, 2, 3, 4);
    }

    /** PLACES 0 to 2 set r 1, r 2, r 3 (or GLOBAL 1); PLACE 3 is of the kind; PLACE 4 reads r 1. */
    private static void eachKindReadsAndSets() {
        int[] threeRegisters = {Checks.ADD, Checks.LESS, Checks.TIMES};
        for (int kind : threeRegisters) {
            SliceWhy x = reader(Checks.l(kind, 1, 2, 3));
            dueCauses("kind " + kind, x, 3, 1, 1, 2, 1);
            dueCauses("behind kind " + kind, x, 4, 3, 1);
        }
        SliceWhy share = reader(Checks.l(Checks.SHARE, 1, 2, 3));
        dueCauses("SHARE", share, 3, 1, 1, 2, 1);
        dueCauses("behind SHARE", share, 4, 3, 1, 3, 4);
        int[] noRegisters = {Checks.NUMBER, Checks.INPUT};
        for (int kind : noRegisters) {
            SliceWhy x = reader(Checks.l(kind, 1, 2, 3));
            dueCauses("kind " + kind, x, 3);
            dueCauses("behind kind " + kind, x, 4, 3, 1);
        }
        SliceWhy use = reader(Checks.l(Checks.USE, 1, 2));
        dueCauses("USE", use, 3);
        dueCauses("behind USE", use, 4, 3, 1);
        SliceWhy get = reader(Checks.l(Checks.GET, 1, 2, 3));
        dueCauses("GET", get, 3, 1, 1);
        dueCauses("behind GET", get, 4, 3, 1);
        SliceWhy put = reader(Checks.l(Checks.PUT, 1, 2, 3));
        dueCauses("PUT", put, 3, 0, 1, 1, 1);
        dueCauses("behind PUT", put, 4, 0, 1);
        SliceWhy set = reader(Checks.l(Checks.SET, 1, 2));
        dueCauses("SET", set, 3, 0, 1);
        dueCauses("behind SET", set, 4, 0, 1);
        SliceWhy branch = reader(Checks.l(Checks.IF, 1, 4));
        dueCauses("IF", branch, 3, 0, 1);
        dueCauses("behind IF", branch, 4, 0, 1);
        int[] others = {Checks.PASS, Checks.GO};
        for (int kind : others) {
            SliceWhy x = reader(Checks.l(kind, 1, 4, 3));
            dueCauses("kind " + kind, x, 3);
            dueCauses("behind kind " + kind, x, 4, 0, 1);
        }
        SliceWhy stop = reader(Checks.l(Checks.STOP, 1, 2, 3));
        dueCauses("STOP", stop, 3);
        dueCauses("behind STOP", stop, 4, 3, 4);
    }

    private static SliceWhy reader(int[] line) {
        return Checks.program(Checks.l(Checks.NUMBER, 1, 1), Checks.l(Checks.NUMBER, 2, 2), Checks.l(Checks.NUMBER, 3, 3), line,
            Checks.l(Checks.ADD, 4, 1, 1));
    }

    private static void namesOfOneRow() {
        for (int put = 1; put < 16; put++) {
            for (int get = 1; get < 16; get++) {
                SliceWhy x = Checks.program(Checks.l(Checks.GET, 1, 0, 3), Checks.l(Checks.PUT, 0, 0, 2), Checks.l(Checks.GET, 1, 0, 3));
                x.points(2, put);
                x.points(3, get);
                boolean one = (put & get) != 0;
                Checks.due("GET of " + get + " behind PUT of " + put, x.causes(2), one ? 1 : 0);
                Checks.due("its kind", x.cause(2, 0, 1), one ? 2 : Checks.NONE);
                Checks.due("GET before PUT", x.causes(0), 0);
                Checks.due("PUT", x.causes(1), 0);
            }
        }
    }

    private static void noPutStandsInTheWay() {
        SliceWhy x = Checks.program(Checks.l(Checks.PUT, 0, 0, 0), Checks.l(Checks.PUT, 0, 0, 0), Checks.l(Checks.GET, 1, 0, 0),
            Checks.l(Checks.PUT, 1, 0, 0));
        dueCauses("two PUTS", x, 2, 0, 2, 1, 2);
        dueCauses("PUT of what was got", x, 3, 2, 1);
        x.line(Checks.GO, 0, 0, 0);
        dueCauses("in a loop", x, 2, 0, 2, 1, 2, 3, 2, 4, 4);
    }

    private static void globals() {
        SliceWhy x = Checks.program(Checks.l(Checks.SET, 0, 1), Checks.l(Checks.SET, 0, 2), Checks.l(Checks.SET, 0, 1),
            Checks.l(Checks.USE, 0, 1), Checks.l(Checks.USE, 1, 2), Checks.l(Checks.USE, 2, 3), Checks.l(Checks.ADD, 3, 1, 2));
        dueCauses("set last", x, 3, 2, 3);
        dueCauses("set first", x, 4, 1, 3);
        dueCauses("not set", x, 5);
        dueCauses("GLOBAL 1 is no REGISTER 1", x, 6, 4, 1, 5, 1);
        for (int g = 0; g < 4; g++) {
            SliceWhy y = Checks.program(Checks.l(Checks.SET, 0, g), Checks.l(Checks.USE, 1, g), Checks.l(Checks.ADD, 2, g, g));
            dueCauses("GLOBAL " + g, y, 1, 0, 3);
        }
    }

    private static void failuresLeadToTheEnd() {
        SliceWhy x = Checks.program(Checks.l(Checks.NUMBER, 0, 1), Checks.l(Checks.SET, 0, 1), Checks.l(Checks.USE, 1, 1),
            Checks.l(Checks.PASS));
        Checks.due("follows(0)", x.follows(0), Checks.set(1, 2, 3));
        dueCauses("no failure", x, 2, 1, 3);
        dueCauses("no failure", x, 3);
        x.start(1, 0, true);
        Checks.due("follows(0), failing", x.follows(0), Checks.set(1));
        Checks.due("follows(2), failing", x.follows(2), 0);
        dueCauses("failing", x, 2, 1, 3, 1, 4);
        dueCauses("failing", x, 3, 2, 4);
        x.start(2, 0, true);
        x.start(1, 0, false);
        Checks.due("follows(0), another one fails", x.follows(0), Checks.set(1, 2, 3));
        x.change(1, Checks.SHARE, 0, 0, 0);
        Checks.due("follows(0), SHARE", x.follows(0), Checks.set(1));
        dueCauses("behind SHARE", x, 3, 1, 4);
    }

    private static void goAndStop() {
        SliceWhy x = Checks.program(Checks.l(Checks.GO, 0, 2), Checks.l(Checks.NUMBER, 0, 1), Checks.l(Checks.ADD, 1, 0, 0),
            Checks.l(Checks.STOP), Checks.l(Checks.ADD, 2, 1, 1));
        Checks.due("follows(0)", x.follows(0), Checks.set(2, 3));
        Checks.due("follows(3)", x.follows(3), 0);
        dueCauses("jumped over", x, 1, 0, 4);
        dueCauses("jumped to", x, 2, 1, 1);
        dueCauses("behind STOP", x, 4, 3, 4);
        Checks.due("BACK with the jump", x.slice(2, 0), Checks.set(0, 1, 2));
        x.change(0, Checks.GO, 0, 1, 0);
        dueCauses("a jump to the place behind", x, 1);
        SliceWhy y = Checks.program(Checks.l(Checks.GO, 0, 3), Checks.l(Checks.PASS), Checks.l(Checks.PASS), Checks.l(Checks.PASS));
        dueCauses("jumped over, too", y, 2, 0, 4);
        dueCauses("jumped to", y, 3);
    }

    private static void branches() {
        SliceWhy x = Checks.program(Checks.l(Checks.INPUT, 0, 0), Checks.l(Checks.IF, 0, 4), Checks.l(Checks.NUMBER, 1, 1),
            Checks.l(Checks.GO, 0, 5), Checks.l(Checks.NUMBER, 1, 2), Checks.l(Checks.ADD, 2, 1, 1));
        Checks.due("follows(0)", x.follows(0), Checks.set(1, 5));
        Checks.due("follows(1)", x.follows(1), Checks.set(5));
        Checks.due("follows(2)", x.follows(2), Checks.set(3, 5));
        Checks.due("follows(5)", x.follows(5), 0);
        dueCauses("IF", x, 1, 0, 1);
        dueCauses("then", x, 2, 1, 4);
        dueCauses("its jump", x, 3, 1, 4);
        dueCauses("else", x, 4, 1, 4, 3, 4);
        dueCauses("behind both", x, 5, 2, 1, 4, 1);
        Checks.due("BACK", x.slice(5, 0), 63);
        Checks.due("BACK", x.slice(2, 0), Checks.set(0, 1, 2));
        Checks.due("THIN", x.slice(5, 1), Checks.set(2, 4, 5));
    }

    private static void aLoopWithItsTestAtTheEnd() {
        SliceWhy x = Checks.program(Checks.l(Checks.PASS), Checks.l(Checks.PASS), Checks.l(Checks.IF, 0, 1), Checks.l(Checks.PASS));
        dueCauses("before", x, 0);
        dueCauses("in it", x, 1, 2, 4);
        dueCauses("its test", x, 2, 2, 4);
        dueCauses("behind", x, 3);
    }

    private static void oneCauseByTwoKinds() {
        SliceWhy x = Checks.program(Checks.l(Checks.SHARE, 0, 1, 2), Checks.l(Checks.ADD, 0, 0, 0));
        dueCauses("SHARE", x, 1, 0, 1, 0, 4);
    }

    private static void thinOnes() {
        SliceWhy x = Checks.program(Checks.l(Checks.NUMBER, 0, 1), Checks.l(Checks.NUMBER, 1, 2), Checks.l(Checks.PUT, 0, 1, 0),
            Checks.l(Checks.GET, 2, 1, 0), Checks.l(Checks.IF, 2, 6), Checks.l(Checks.SET, 2, 0), Checks.l(Checks.USE, 3, 0));
        Checks.due("BACK of 6", x.slice(6, 0), 127);
        Checks.due("THIN of 2", x.slice(2, 1), Checks.set(0, 2));
        Checks.due("THIN of 3", x.slice(3, 1), Checks.set(0, 2, 3));
        Checks.due("THIN of 4", x.slice(4, 1), Checks.set(4));
        Checks.due("THIN of 5", x.slice(5, 1), Checks.set(0, 2, 3, 5));
        Checks.due("THIN of 6", x.slice(6, 1), Checks.set(0, 2, 3, 5, 6));
        Checks.due("THINLY of 0", x.slice(0, 3), Checks.set(0, 2, 3, 5, 6));
        Checks.due("THINLY of 1", x.slice(1, 3), Checks.set(1));
        Checks.due("THINLY of 4", x.slice(4, 3), Checks.set(4));
    }

    private static void thinPutOfItsOwnItem() {
        SliceWhy x = Checks.program(Checks.l(Checks.NUMBER, 1, 2), Checks.l(Checks.PUT, 1, 1, 0));
        Checks.due("b is a", x.slice(1, 1), 3);
        x.change(1, Checks.GET, 1, 1, 0);
        Checks.due("b of GET is left out in any case", x.slice(1, 1), 2);
        Checks.due("not of BACK", x.slice(1, 0), 3);
    }

    private static void forwardOnes() {
        SliceWhy x = Checks.program(Checks.l(Checks.NUMBER, 0, 1), Checks.l(Checks.IF, 0, 3), Checks.l(Checks.NUMBER, 1, 2),
            Checks.l(Checks.ADD, 2, 1, 1), Checks.l(Checks.ADD, 3, 0, 0));
        Checks.due("FORWARD of 0", x.slice(0, 2), 31);
        Checks.due("FORWARD of 1", x.slice(1, 2), Checks.set(1, 2, 3));
        Checks.due("FORWARD of 4", x.slice(4, 2), Checks.set(4));
        Checks.due("THINLY of 0", x.slice(0, 3), Checks.set(0, 4));
        Checks.due("THINLY of 2", x.slice(2, 3), Checks.set(2, 3));
    }

    private static void chops() {
        SliceWhy x = Checks.program(Checks.l(Checks.NUMBER, 0, 1), Checks.l(Checks.ADD, 1, 0, 0), Checks.l(Checks.ADD, 2, 0, 0),
            Checks.l(Checks.ADD, 3, 1, 4), Checks.l(Checks.ADD, 5, 2, 3));
        Checks.due("chop(0, 4)", x.chop(0, 4), 31);
        Checks.due("chop(0, 3)", x.chop(0, 3), Checks.set(0, 1, 3));
        Checks.due("chop(1, 4)", x.chop(1, 4), Checks.set(1, 3, 4));
        Checks.due("chop(2, 3)", x.chop(2, 3), 0);
        Checks.due("chop(4, 0)", x.chop(4, 0), 0);
        Checks.due("chop(2, 2)", x.chop(2, 2), Checks.set(2));
    }

    private static void dueWay(SliceWhy x, int v, int u, int... want) {
        String call = "way(" + v + ", " + u + ")";
        Checks.due(call, x.way(v, u), want.length);
        for (int k = 0; k < want.length; k++) {
            Checks.due(call + ", on(" + k + ")", x.on(k), want[k]);
        }
        Checks.due(call + ", behind it", x.on(want.length), Checks.NONE);
        Checks.due(call + ", before it", x.on(-1), Checks.NONE);
        Checks.due(call + ", far off", x.on(Integer.MAX_VALUE), Checks.NONE);
    }

    private static void shortestWays() {
        SliceWhy x = Checks.program(Checks.l(Checks.NUMBER, 0, 1), Checks.l(Checks.ADD, 1, 0, 0), Checks.l(Checks.ADD, 2, 1, 1),
            Checks.l(Checks.ADD, 3, 1, 2), Checks.l(Checks.ADD, 4, 2, 3), Checks.l(Checks.ADD, 5, 0, 4));
        dueWay(x, 5, 0, 5, 0);
        dueWay(x, 5, 1, 5, 4, 2, 1);
        dueWay(x, 4, 0, 4, 2, 1, 0);
        dueWay(x, 3, 0, 3, 1, 0);
        dueWay(x, 2, 2, 2);
        SliceWhy y = new SliceWhy();
        y.line(Checks.NUMBER, 0, 1, 0);
        for (int p = 1; p < 24; p++) {
            y.line(Checks.ADD, p % 8, (p - 1) % 8, (p - 1) % 8);
        }
        Checks.due("24 places", y.way(23, 0), 24);
        Checks.due("the last", y.on(23), 0);
        Checks.due("before the last", y.on(22), 1);
        y.change(23, Checks.GO, 0, 0, 0);
        dueWay(y, 0, 23, 0, 23);
        SliceWhy z = Checks.program(Checks.l(Checks.ADD, 0, 0, 0), Checks.l(Checks.GO, 0, 0));
        dueWay(z, 0, 0, 0);
        dueWay(z, 0, 1, 0, 1);
    }

    private static void waysAreLeastFromTheirFirst() {
        SliceWhy x = Checks.program(Checks.l(Checks.NUMBER, 0, 1), Checks.l(Checks.ADD, 1, 0, 0), Checks.l(Checks.ADD, 2, 0, 0),
            Checks.l(Checks.ADD, 3, 2, 2), Checks.l(Checks.ADD, 4, 1, 1), Checks.l(Checks.ADD, 5, 4, 3));
        dueWay(x, 5, 0, 5, 3, 2, 0);
    }

    private static void waysStay() {
        SliceWhy x = Checks.program(Checks.l(Checks.NUMBER, 0, 1), Checks.l(Checks.ADD, 1, 0, 0));
        Checks.due("no way", x.way(0, 1), Checks.NONE);
        Checks.due("none yet", x.on(0), Checks.NONE);
        dueWay(x, 1, 0, 1, 0);
        Checks.due("no way", x.way(0, 1), Checks.NONE);
        Checks.due("bad", x.way(0, 2), Checks.BAD);
        x.drop();
        Checks.due("the latest one stays", x.on(0), 1);
        Checks.due("with all its places", x.on(1), 0);
    }

    private static void wrongNumbers() {
        SliceWhy x = Checks.program(Checks.l(Checks.NUMBER, 0, 1), Checks.l(Checks.ADD, 1, 0, 0));
        int[] noPlaces = {-1, -4, 2, 24, 31, 32, Integer.MIN_VALUE, Integer.MAX_VALUE};
        for (int p : noPlaces) {
            for (int way = 0; way < 4; way++) {
                Checks.due("slice(" + p + ", " + way + ")", x.slice(p, way), Checks.BAD);
            }
            Checks.due("follows(" + p + ")", x.follows(p), Checks.BAD);
            Checks.due("causes(" + p + ")", x.causes(p), Checks.BAD);
            Checks.due("cause(" + p + ", 0, 0)", x.cause(p, 0, 0), Checks.BAD);
            Checks.due("chop(" + p + ", 0)", x.chop(p, 0), Checks.BAD);
            Checks.due("chop(0, " + p + ")", x.chop(0, p), Checks.BAD);
            Checks.due("way(" + p + ", 0)", x.way(p, 0), Checks.BAD);
            Checks.due("way(0, " + p + ")", x.way(0, p), Checks.BAD);
        }
        Checks.due("slice(1, -1)", x.slice(1, -1), Checks.BAD);
        Checks.due("slice(1, 4)", x.slice(1, 4), Checks.BAD);
        Checks.due("cause(1, 0, 2)", x.cause(1, 0, 2), Checks.BAD);
        Checks.due("cause(1, 0, -1)", x.cause(1, 0, -1), Checks.BAD);
        Checks.due("cause(1, 5, 2)", x.cause(1, 5, 2), Checks.BAD);
        Checks.due("cause(1, -1, 0)", x.cause(1, -1, 0), Checks.BAD);
        Checks.due("cause(1, max, 0)", x.cause(1, Integer.MAX_VALUE, 0), Checks.NONE);
    }

    private static void staleAnswersGo() {
        SliceWhy x = Checks.program(Checks.l(Checks.PUT, 0, 0, 0), Checks.l(Checks.GET, 1, 0, 1), Checks.l(Checks.USE, 2, 0));
        Checks.due("at first", x.slice(1, 0), 3);
        x.points(1, 2);
        Checks.due("after points", x.slice(1, 0), 2);
        x.points(0, 3);
        Checks.due("after points again", x.slice(1, 0), 3);
        x.line(Checks.PASS, 0, 0, 0);
        Checks.due("after line", x.slice(3, 0), 8);
        x.start(0, 0, true);
        Checks.due("after start", x.slice(3, 0), 12);
        x.drop();
        Checks.due("after drop", x.slice(2, 2), 4);
        x.change(0, Checks.PASS, 0, 0, 0);
        Checks.due("after change", x.slice(1, 0), 2);
    }
}
