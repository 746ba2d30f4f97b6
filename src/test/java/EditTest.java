/** Promises 1 to 7, 20, 21, 23: a new object, and what changes it. */
public final class EditTest extends Checks {
    private static final int FREE = 0;
    private static final int REGISTER = 8, INPUTS = 4, NAME = 4, GLOBAL = 4, TO = 25;
    /** Of each KIND, how many values a, b, c may have. */
    private static final int[][] LIMITS = {
        {FREE, FREE, FREE}, {REGISTER, FREE, FREE}, {REGISTER, INPUTS, FREE}, {REGISTER, REGISTER, REGISTER},
        {REGISTER, REGISTER, REGISTER}, {REGISTER, REGISTER, REGISTER}, {REGISTER, REGISTER, REGISTER},
        {REGISTER, REGISTER, NAME}, {REGISTER, REGISTER, NAME}, {REGISTER, GLOBAL, FREE}, {REGISTER, GLOBAL, FREE},
        {REGISTER, TO, FREE}, {FREE, TO, FREE}, {FREE, FREE, FREE}};

    public static void main(String[] args) {
        newObject();
        limitsOfKinds();
        lineTellsNumbersTillFull();
        changeTellsKindBefore();
        changeTakesEffect();
        dropTellsHowManyAreLeft();
        startOfGlobals();
        pointsTellsWhatItWas();
        inputs();
        testsAreCountedAndGo();
        counts();
        end("EditTest");
    }

    private static void newObject() {
        SliceWhy x = new SliceWhy();
        for (int what = 0; what < 3; what++) {
            due("new: count(" + what + ")", x.count(what), 0);
        }
        due("new: seen()", x.seen(), 0);
        due("new: saw(0)", x.saw(0), 0);
        for (int what = -2; what < 12; what++) {
            due("new: left(" + what + ")", x.left(what), what == 1 ? NONE : 0);
        }
        due("new: on(0)", x.on(0), NONE);
        due("new: drop()", x.drop(), STATE);
        due("new: untest()", x.untest(), 0);
        noPlaceZero("new", x);
    }

    private static void noPlaceZero(String when, SliceWhy x) {
        due(when + ": change", x.change(0, 0, 0, 0, 0), BAD);
        due(when + ": run", x.run(NONE, 0), BAD);
        due(when + ": slice", x.slice(0, 0), BAD);
        due(when + ": follows", x.follows(0), BAD);
        due(when + ": causes", x.causes(0), BAD);
        due(when + ": cause", x.cause(0, 0, 0), BAD);
        due(when + ": chop", x.chop(0, 0), BAD);
        due(when + ": way", x.way(0, 0), BAD);
        due(when + ": same", x.same(0), BAD);
        due(when + ": least", x.least(0), BAD);
    }

    private static void limitsOfKinds() {
        int[] far = {MIN, -1000, 1000, MAX};
        for (int kind = 0; kind < 14; kind++) {
            for (int which = 0; which < 3; which++) {
                int limit = LIMITS[kind][which];
                boolean free = limit == FREE;
                taken(kind, which, -1, free);
                taken(kind, which, 0, true);
                taken(kind, which, limit - 1, true);
                taken(kind, which, limit, free);
                for (int value : far) {
                    taken(kind, which, value, free);
                }
            }
        }
        int[] noKinds = {-1, 14, 15, MIN, MAX};
        for (int kind : noKinds) {
            SliceWhy x = program(l(STOP));
            due("line of kind " + kind, x.line(kind, 0, 0, 0), BAD);
            due("change to kind " + kind, x.change(0, kind, 0, 0, 0), BAD);
            due("kind as before", x.change(0, 0, 0, 0, 0), STOP);
        }
    }

    private static void taken(int kind, int which, int value, boolean fine) {
        int[] v = new int[3];
        v[which] = value;
        String call = "(" + kind + ", " + v[0] + ", " + v[1] + ", " + v[2] + ")";
        SliceWhy x = program(l(STOP));
        due("line" + call, x.line(kind, v[0], v[1], v[2]), fine ? 1 : BAD);
        due("places after line" + call, x.count(0), fine ? 2 : 1);
        due("change to " + call, x.change(0, kind, v[0], v[1], v[2]), fine ? STOP : BAD);
        due("kind after change to " + call, x.change(0, 0, 0, 0, 0), fine ? kind : STOP);
        // What is not looked at may not trouble any later call either.
        x.run(NONE, 0);
        due("same after " + call, x.same(0) >= 0 ? 1 : 0, 1);
    }

    private static void lineTellsNumbersTillFull() {
        SliceWhy x = new SliceWhy();
        for (int p = 0; p < 24; p++) {
            due("line, place " + p, x.line(PASS, 0, 0, 0), p);
        }
        due("line, full", x.line(PASS, 0, 0, 0), FULL);
        due("line, full and bad", x.line(14, 0, 0, 0), BAD);
        due("places", x.count(0), 24);
        due("run of 24", x.run(NONE, 23), 0);
        due("steps of 24", x.left(0), 24);
        due("follows(0) of 24", x.follows(0), (1 << 24) - 2);
        due("drop", x.drop(), 23);
        due("line again", x.line(GO, 0, 24, 0), 23);
        due("a jump from the last place to the end", x.run(NONE, 23), 0);
    }

    private static void changeTellsKindBefore() {
        SliceWhy x = program(l(PASS), l(GO, 0, 0, 0));
        due("change(-1)", x.change(-1, 0, 0, 0, 0), BAD);
        due("change(2)", x.change(2, 0, 0, 0, 0), BAD);
        due("change(max)", x.change(MAX, 0, 0, 0, 0), BAD);
        due("change(1)", x.change(1, STOP, 0, 0, 0), GO);
        due("change(1) again", x.change(1, SET, 0, 0, 0), STOP);
        due("change(0)", x.change(0, ADD, 0, 0, 0), PASS);
        due("places", x.count(0), 2);
    }

    private static void changeTakesEffect() {
        SliceWhy x = program(l(NUMBER, 0, 5), l(ADD, 1, 0, 0));
        x.run(NONE, 1);
        due("before", x.saw(0), 10);
        due("slice before", x.slice(1, 0), 3);
        x.change(0, NUMBER, 2, 5, 0);
        due("the latest run stays", x.saw(0), 10);
        due("slice after", x.slice(1, 0), 2);
        x.run(NONE, 1);
        due("after", x.saw(0), 0);
        x.change(0, STOP, 8, 9, 10);
        due("slice behind STOP", x.slice(1, 0), 3);
        due("wrong change", x.change(0, NUMBER, 8, 5, 0), BAD);
        x.run(NONE, 1);
        due("STOP stays", x.seen(), 0);
    }

    private static void dropTellsHowManyAreLeft() {
        SliceWhy x = program(l(IF, 0, 2), l(NUMBER, 0, 1), l(NUMBER, 0, 2));
        due("slice(2) before", x.slice(2, 0), 4);
        due("follows(0) before", x.follows(0), 4);
        due("drop", x.drop(), 2);
        due("slice of what is gone", x.slice(2, 0), BAD);
        due("a place that there is not is the end", x.run(NONE, 0), 0);
        due("one step", x.left(0), 1);
        due("follows(0) after", x.follows(0), 0);
        due("a place again where IF goes", x.line(NUMBER, 3, 4, 0), 2);
        x.run(NONE, 2);
        due("seen", x.seen(), 1);
        due("drop", x.drop(), 2);
        due("drop", x.drop(), 1);
        due("drop", x.drop(), 0);
        due("drop of none", x.drop(), STATE);
        noPlaceZero("all dropped", x);
        due("line", x.line(PASS, 0, 0, 0), 0);
    }

    private static void startOfGlobals() {
        SliceWhy x = program(l(USE, 0, 0), l(USE, 1, 1), l(USE, 2, 2),
            l(USE, 3, 3), l(SET, 3, 0), l(USE, 4, 0));
        x.run(NONE, 0);
        due("starts with 0", x.left(2), 0);
        for (int g = 0; g < 4; g++) {
            due("start(" + g + ")", x.start(g, 10 - 7 * g, false), 1);
        }
        due("start(-1)", x.start(-1, 1, false), BAD);
        due("start(4)", x.start(4, 1, true), BAD);
        for (int twice = 0; twice < 2; twice++) {
            due("run", x.run(NONE, 0), 0);
            for (int g = 0; g < 4; g++) {
                due("global " + g, x.left(2 + g), 10 - 7 * g);
            }
            due("global that was set", x.left(6), -11);
        }
        due("start fails", x.start(2, 8, true), 1);
        due("run fails", x.run(NONE, 2), 1);
        due("at 2", x.left(1), 2);
        due("start fails no more", x.start(2, MIN, false), 1);
        due("run", x.run(NONE, 2), 0);
        due("told", x.saw(0), MIN);
    }

    private static void pointsTellsWhatItWas() {
        SliceWhy x = new SliceWhy();
        for (int name = 0; name < 4; name++) {
            due("points(" + name + ", 15)", x.points(name, 15), 1);
            due("points(" + name + ", 0)", x.points(name, 0), BAD);
            due("points(" + name + ", 16)", x.points(name, 16), BAD);
            due("points(" + name + ", -1)", x.points(name, -1), BAD);
            due("points(" + name + ", 6)", x.points(name, 6), 15);
            due("points(" + name + ", 1)", x.points(name, 1), 6);
        }
        due("points(-1, 1)", x.points(-1, 1), BAD);
        due("points(4, 1)", x.points(4, 1), BAD);
    }

    private static void inputs() {
        SliceWhy x = program(l(INPUT, 0, 0), l(INPUT, 1, 1), l(INPUT, 2, 2),
            l(INPUT, 3, 3));
        x.run(NONE, 0);
        due("inputs are 0 at first", x.left(2) | x.left(3) | x.left(4) | x.left(5), 0);
        int[] values = {MIN, -1, 77, MAX};
        for (int k = 0; k < 4; k++) {
            due("input(" + k + ")", x.input(k, values[k]), 1);
        }
        due("input(-1)", x.input(-1, 5), BAD);
        due("input(4)", x.input(4, 5), BAD);
        x.run(NONE, 0);
        for (int k = 0; k < 4; k++) {
            due("register " + k, x.left(2 + k), values[k]);
        }
    }

    private static void testsAreCountedAndGo() {
        SliceWhy x = new SliceWhy();
        for (int t = 0; t < 3; t++) {
            due("test", x.test(), t);
            due("count", x.count(1), t + 1);
        }
        due("test when full", x.test(), FULL);
        due("count when full", x.count(1), 3);
        due("untest", x.untest(), 3);
        due("untest again", x.untest(), 0);
        due("count", x.count(1), 0);
        due("test from 0 on", x.test(), 0);
    }

    private static void counts() {
        SliceWhy x = program(l(PASS), l(GO, 0, 1));
        due("run spent", x.run(NONE, 0), 2);
        due("run bad", x.run(NONE, 2), BAD);
        due("run bad", x.run(2, 0), BAD);
        due("run of a slice", x.run(0, 0), 0);
        x.same(0);
        x.test();
        x.least(0);
        due("count(0)", x.count(0), 2);
        due("count(1)", x.count(1), 1);
        due("count(2)", x.count(2), 2);
        due("count(3)", x.count(3), BAD);
        due("count(-1)", x.count(-1), BAD);
    }
}
