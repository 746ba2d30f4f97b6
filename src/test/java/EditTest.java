/** Promises 1 to 7, 20, 21, 23: a new object, and what changes it. */
public final class EditTest {
    private static final int FREE = 0;
    private static final int REGISTER = 8, INPUTS = 4, NAME = 4, GLOBAL = 4, TO = 25;
    /** Of each KIND, how many values a, b, c may have. */
    private static final int[][] LIMITS = {
        {FREE, FREE, FREE}, {REGISTER, FREE, FREE}, {REGISTER, INPUTS, FREE}, {REGISTER, REGISTER, REGISTER},
        {REGISTER, REGISTER, REGISTER}, {REGISTER, REGISTER, REGISTER}, {REGISTER, REGISTER, REGISTER},
        {REGISTER, REGISTER, NAME}, {REGISTER, REGISTER, NAME}, {REGISTER, GLOBAL, FREE}, {REGISTER, GLOBAL, FREE},
        {REGISTER, TO, FREE}, {FREE, TO, FREE}, {FREE, FREE, FREE}};

    public static void main(String[] args) {
        newObject();
        limitsOfKinds();
        lineTellsNumbersTillFull();
        changeTellsKindBefore();
        changeTakesEffect();
        dropTellsHowManyAreLeft();
        startOfGlobals();
        pointsTellsWhatItWas();
        inputs();
        testsAreCountedAndGo();
        counts();
        Checks.end("EditTest");
    }

    private static void newObject() {
        SliceWhy x = new SliceWhy();
        for (int what = 0; what < 3; what++) {
            Checks.due("new: count(" + what + ")", x.count(what), 0);
        }
        Checks.due("new: seen()", x.seen(), 0);
        Checks.due("new: saw(0)", x.saw(0), 0);
        for (int what = -2; what < 12; what++) {
            Checks.due("new: left(" + what + ")", x.left(what), what == 1 ? Checks.NONE : 0);
        }
        Checks.due("new: on(0)", x.on(0), Checks.NONE);
        Checks.due("new: drop()", x.drop(), Checks.STATE);
        Checks.due("new: untest()", x.untest(), 0);
        noPlaceZero("new", x);
    }

    private static void noPlaceZero(String when, SliceWhy x) {
        Checks.due(when + ": change", x.change(0, 0, 0, 0, 0), Checks.BAD);
        Checks.due(when + ": run", x.run(Checks.NONE, 0), Checks.BAD);
        Checks.due(when + ": slice", x.slice(0, 0), Checks.BAD);
        Checks.due(when + ": follows", x.follows(0), Checks.BAD);
        Checks.due(when + ": causes", x.causes(0), Checks.BAD);
        Checks.due(when + ": cause", x.cause(0, 0, 0), Checks.BAD);
        Checks.due(when + ": chop", x.chop(0, 0), Checks.BAD);
        Checks.due(when + ": way", x.way(0, 0), Checks.BAD);
        Checks.due(when + ": same", x.same(0), Checks.BAD);
        Checks.due(when + ": least", x.least(0), Checks.BAD);
    }

    private static void limitsOfKinds() {
        int[] far = {Integer.MIN_VALUE, -1000, 1000, Integer.MAX_VALUE};
        for (int kind = 0; kind < 14; kind++) {
            for (int which = 0; which < 3; which++) {
                int limit = LIMITS[kind][which];
                boolean free = limit == FREE;
                taken(kind, which, -1, free);
                taken(kind, which, 0, true);
                taken(kind, which, limit - 1, true);
                taken(kind, which, limit, free);
                for (int value : far) {
                    taken(kind, which, value, free);
                }
            }
        }
        int[] noKinds = {-1, 14, 15, Integer.MIN_VALUE, Integer.MAX_VALUE};
        for (int kind : noKinds) {
            SliceWhy x = Checks.program(Checks.l(Checks.STOP));
            Checks.due("line of kind " + kind, x.line(kind, 0, 0, 0), Checks.BAD);
            Checks.due("change to kind " + kind, x.change(0, kind, 0, 0, 0), Checks.BAD);
            Checks.due("kind as before", x.change(0, 0, 0, 0, 0), Checks.STOP);
        }
    }

    private static void taken(int kind, int which, int value, boolean fine) {
        int[] v = new int[3];
        v[which] = value;
        String call = "(" + kind + ", " + v[0] + ", " + v[1] + ", " + v[2] + ")";
        SliceWhy x = Checks.program(Checks.l(Checks.STOP));
        Checks.due("line" + call, x.line(kind, v[0], v[1], v[2]), fine ? 1 : Checks.BAD);
        Checks.due("places after line" + call, x.count(0), fine ? 2 : 1);
        Checks.due("change to " + call, x.change(0, kind, v[0], v[1], v[2]), fine ? Checks.STOP : Checks.BAD);
        Checks.due("kind after change to " + call, x.change(0, 0, 0, 0, 0), fine ? kind : Checks.STOP);
        // What is not looked at may not trouble any later call either.
        x.run(Checks.NONE, 0);
        Checks.due("same after " + call, x.same(0) >= 0 ? 1 : 0, 1);
    }

    private static void lineTellsNumbersTillFull() {
        SliceWhy x = new SliceWhy();
        for (int p = 0; p < 24; p++) {
            Checks.due("line, place " + p, x.line(Checks.PASS, 0, 0, 0), p);
        }
        Checks.due("line, full", x.line(Checks.PASS, 0, 0, 0), Checks.FULL);
        Checks.due("line, full and bad", x.line(14, 0, 0, 0), Checks.BAD);
        Checks.due("places", x.count(0), 24);
        Checks.due("run of 24", x.run(Checks.NONE, 23), 0);
        Checks.due("steps of 24", x.left(0), 24);
        Checks.due("follows(0) of 24", x.follows(0), (1 << 24) - 2);
        Checks.due("drop", x.drop(), 23);
        Checks.due("line again", x.line(Checks.GO, 0, 24, 0), 23);
        Checks.due("a jump from the last place to the end", x.run(Checks.NONE, 23), 0);
    }

    private static void changeTellsKindBefore() {
        SliceWhy x = Checks.program(Checks.l(Checks.PASS), Checks.l(Checks.GO, 0, 0, 0));
        Checks.due("change(-1)", x.change(-1, 0, 0, 0, 0), Checks.BAD);
        Checks.due("change(2)", x.change(2, 0, 0, 0, 0), Checks.BAD);
        Checks.due("change(max)", x.change(Integer.MAX_VALUE, 0, 0, 0, 0), Checks.BAD);
        Checks.due("change(1)", x.change(1, Checks.STOP, 0, 0, 0), Checks.GO);
        Checks.due("change(1) again", x.change(1, Checks.SET, 0, 0, 0), Checks.STOP);
        Checks.due("change(0)", x.change(0, Checks.ADD, 0, 0, 0), Checks.PASS);
        Checks.due("places", x.count(0), 2);
    }

    private static void changeTakesEffect() {
        SliceWhy x = Checks.program(Checks.l(Checks.NUMBER, 0, 5), Checks.l(Checks.ADD, 1, 0, 0));
        x.run(Checks.NONE, 1);
        Checks.due("before", x.saw(0), 10);
        Checks.due("slice before", x.slice(1, 0), 3);
        x.change(0, Checks.NUMBER, 2, 5, 0);
        Checks.due("the latest run stays", x.saw(0), 10);
        Checks.due("slice after", x.slice(1, 0), 2);
        x.run(Checks.NONE, 1);
        Checks.due("after", x.saw(0), 0);
        x.change(0, Checks.STOP, 8, 9, 10);
        Checks.due("slice behind STOP", x.slice(1, 0), 3);
        Checks.due("wrong change", x.change(0, Checks.NUMBER, 8, 5, 0), Checks.BAD);
        x.run(Checks.NONE, 1);
        Checks.due("STOP stays", x.seen(), 0);
    }

    private static void dropTellsHowManyAreLeft() {
        SliceWhy x = Checks.program(Checks.l(Checks.IF, 0, 2), Checks.l(Checks.NUMBER, 0, 1), Checks.l(Checks.NUMBER, 0, 2));
        Checks.due("slice(2) before", x.slice(2, 0), 4);
        Checks.due("follows(0) before", x.follows(0), 4);
        Checks.due("drop", x.drop(), 2);
        Checks.due("slice of what is gone", x.slice(2, 0), Checks.BAD);
        Checks.due("a place that there is not is the end", x.run(Checks.NONE, 0), 0);
        Checks.due("one step", x.left(0), 1);
        Checks.due("follows(0) after", x.follows(0), 0);
        Checks.due("a place again where IF goes", x.line(Checks.NUMBER, 3, 4, 0), 2);
        x.run(Checks.NONE, 2);
        Checks.due("seen", x.seen(), 1);
        Checks.due("drop", x.drop(), 2);
        Checks.due("drop", x.drop(), 1);
        Checks.due("drop", x.drop(), 0);
        Checks.due("drop of none", x.drop(), Checks.STATE);
        noPlaceZero("all dropped", x);
        Checks.due("line", x.line(Checks.PASS, 0, 0, 0), 0);
    }

    private static void startOfGlobals() {
        SliceWhy x = Checks.program(Checks.l(Checks.USE, 0, 0), Checks.l(Checks.USE, 1, 1), Checks.l(Checks.USE, 2, 2),
            Checks.l(Checks.USE, 3, 3), Checks.l(Checks.SET, 3, 0), Checks.l(Checks.USE, 4, 0));
        x.run(Checks.NONE, 0);
        Checks.due("starts with 0", x.left(2), 0);
        for (int g = 0; g < 4; g++) {
            Checks.due("start(" + g + ")", x.start(g, 10 - 7 * g, false), 1);
        }
        Checks.due("start(-1)", x.start(-1, 1, false), Checks.BAD);
        Checks.due("start(4)", x.start(4, 1, true), Checks.BAD);
        for (int twice = 0; twice < 2; twice++) {
            Checks.due("run", x.run(Checks.NONE, 0), 0);
            for (int g = 0; g < 4; g++) {
                Checks.due("global " + g, x.left(2 + g), 10 - 7 * g);
            }
            Checks.due("global that was set", x.left(6), -11);
        }
        Checks.due("start fails", x.start(2, 8, true), 1);
        Checks.due("run fails", x.run(Checks.NONE, 2), 1);
        Checks.due("at 2", x.left(1), 2);
        Checks.due("start fails no more", x.start(2, Integer.MIN_VALUE, false), 1);
        Checks.due("run", x.run(Checks.NONE, 2), 0);
        Checks.due("told", x.saw(0), Integer.MIN_VALUE);
    }

    private static void pointsTellsWhatItWas() {
        SliceWhy x = new SliceWhy();
        for (int name = 0; name < 4; name++) {
            Checks.due("points(" + name + ", 15)", x.points(name, 15), 1);
            Checks.due("points(" + name + ", 0)", x.points(name, 0), Checks.BAD);
            Checks.due("points(" + name + ", 16)", x.points(name, 16), Checks.BAD);
            Checks.due("points(" + name + ", -1)", x.points(name, -1), Checks.BAD);
            Checks.due("points(" + name + ", 6)", x.points(name, 6), 15);
            Checks.due("points(" + name + ", 1)", x.points(name, 1), 6);
        }
        Checks.due("points(-1, 1)", x.points(-1, 1), Checks.BAD);
        Checks.due("points(4, 1)", x.points(4, 1), Checks.BAD);
    }

    private static void inputs() {
        SliceWhy x = Checks.program(Checks.l(Checks.INPUT, 0, 0), Checks.l(Checks.INPUT, 1, 1), Checks.l(Checks.INPUT, 2, 2),
            Checks.l(Checks.INPUT, 3, 3));
        x.run(Checks.NONE, 0);
        Checks.due("inputs are 0 at first", x.left(2) | x.left(3) | x.left(4) | x.left(5), 0);
        int[] values = {Integer.MIN_VALUE, -1, 77, Integer.MAX_VALUE};
        for (int k = 0; k < 4; k++) {
            Checks.due("input(" + k + ")", x.input(k, values[k]), 1);
        }
        Checks.due("input(-1)", x.input(-1, 5), Checks.BAD);
        Checks.due("input(4)", x.input(4, 5), Checks.BAD);
        x.run(Checks.NONE, 0);
        for (int k = 0; k < 4; k++) {
            Checks.due("register " + k, x.left(2 + k), values[k]);
        }
    }

    private static void testsAreCountedAndGo() {
        SliceWhy x = new SliceWhy();
        for (int t = 0; t < 3; t++) {
            Checks.due("test", x.test(), t);
            Checks.due("count", x.count(1), t + 1);
        }
        Checks.due("test when full", x.test(), Checks.FULL);
        Checks.due("count when full", x.count(1), 3);
        Checks.due("untest", x.untest(), 3);
        Checks.due("untest again", x.untest(), 0);
        Checks.due("count", x.count(1), 0);
        Checks.due("test from 0 on", x.test(), 0);
    }

    private static void counts() {
        SliceWhy x = Checks.program(Checks.l(Checks.PASS), Checks.l(Checks.GO, 0, 1));
        Checks.due("run spent", x.run(Checks.NONE, 0), 2);
        Checks.due("run bad", x.run(Checks.NONE, 2), Checks.BAD);
        Checks.due("run bad", x.run(2, 0), Checks.BAD);
        Checks.due("run of a slice", x.run(0, 0), 0);
        x.same(0);
        x.test();
        x.least(0);
        Checks.due("count(0)", x.count(0), 2);
        Checks.due("count(1)", x.count(1), 1);
        Checks.due("count(2)", x.count(2), 2);
        Checks.due("count(3)", x.count(3), Checks.BAD);
        Checks.due("count(-1)", x.count(-1), Checks.BAD);
    }
}
