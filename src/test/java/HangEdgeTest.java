/** Promises 12 to 18: each sentence that names an edge has a test of its own here. */
public final class HangEdgeTest extends Checks {
    private static final int[] NO_PLACES = {-1, NONE, 3, 24, 31, 32, MIN, MAX};

    public static void main(String[] args) {
        sliceOfEachWay();
        sliceOfOnePlaceAndOfMany();
        sliceOfNoPlace();
        sliceOfNoWay();
        followsFromNoneToMost();
        followsOfNoPlace();
        causesFromNoneToMost();
        causesOfNoPlace();
        causeFromFirstToLast();
        causeNotSoMany();
        causeOfNoPlace();
        causeOfNoNumber();
        causeOfAnotherWhat();
        chopFromNoneToAll();
        chopOfNoPlace();
        wayFromOneToAll();
        wayThatThereIsNot();
        wayOfNoPlace();
        onBeforeAWay();
        onFromFirstToLast();
        onOfTheLatestWayThatThereWas();
        nothingOfAnEmptyProgram();
        end("HangEdgeTest");
    }

    /** Three PLACES, each of which HANGS on the one before. */
    private static SliceWhy chain() {
        return program(l(NUMBER, 0, 1), l(ADD, 1, 0, 0), l(ADD, 2, 1, 1));
    }

    /** 24 PLACES, each of which HANGS on the one before. */
    private static SliceWhy longChain() {
        SliceWhy x = new SliceWhy();
        x.line(NUMBER, 0, 1, 0);
        for (int p = 1; p < 24; p++) {
            x.line(ADD, p % 8, (p - 1) % 8, (p - 1) % 8);
        }
        return x;
    }

    /** The first of 24 PLACES HANGS on each by CONTROL. */
    private static SliceWhy allGoToTheFirst() {
        SliceWhy x = new SliceWhy();
        for (int p = 0; p < 23; p++) {
            x.line(IF, 0, 0, 0);
        }
        x.line(GO, 0, 0, 0);
        return x;
    }

    private static void sliceOfEachWay() {
        says("12 BACK (way 0), THIN (1), FORWARD (2), THINLY (3) of a PLACE");
        SliceWhy x = program(l(NUMBER, 0, 1), l(IF, 0, 3), l(ADD, 1, 0, 0), l(ADD, 2, 1, 1));
        due("BACK of 2", x.slice(2, 0), set(0, 1, 2));
        due("THIN of 2", x.slice(2, 1), set(0, 2));
        due("FORWARD of 0", x.slice(0, 2), set(0, 1, 2, 3));
        due("THINLY of 0", x.slice(0, 3), set(0, 2, 3));
        due("FORWARD of 1", x.slice(1, 2), set(1, 2, 3));
        due("THINLY of 1", x.slice(1, 3), set(1));
    }

    private static void sliceOfOnePlaceAndOfMany() {
        says("12 Sets of PLACES are told as bits");
        SliceWhy one = program(l(PASS));
        SliceWhy many = longChain();
        for (int way = 0; way < 4; way++) {
            due("one PLACE, way " + way, one.slice(0, way), 1);
            due("the last of 24, way " + way, many.slice(23, way), way < 2 ? (1 << 24) - 1 : 1 << 23);
            due("the first of 24, way " + way, many.slice(0, way), way < 2 ? 1 : (1 << 24) - 1);
        }
    }

    private static void sliceOfNoPlace() {
        says("12 BAD: p");
        SliceWhy x = chain();
        for (int p : NO_PLACES) {
            for (int way = 0; way < 4; way++) {
                due("slice(" + p + ", " + way + ")", x.slice(p, way), BAD);
            }
        }
        due("the last one", x.slice(2, 2), 4);
        x.drop();
        due("one that went", x.slice(2, 2), BAD);
        due("it is in no other one's slice", x.slice(0, 2), 3);
    }

    private static void sliceOfNoWay() {
        says("12 BAD: way");
        SliceWhy x = chain();
        int[] wrong = {-1, 4, NONE, MIN, MAX};
        for (int way : wrong) {
            due("slice(0, " + way + ")", x.slice(0, way), BAD);
        }
    }

    private static void followsFromNoneToMost() {
        says("13 PLACES that FOLLOW one");
        due("the only one", program(l(PASS)).follows(0), 0);
        SliceWhy x = longChain();
        due("the first of 24", x.follows(0), (1 << 24) - 2);
        due("the last but one", x.follows(22), 1 << 23);
        due("the last", x.follows(23), 0);
        due("one that goes back to itself", program(l(GO, 0, 0)).follows(0), 0);
        due("one that goes back to both", program(l(PASS), l(GO, 0, 0)).follows(0), 2);
    }

    private static void followsOfNoPlace() {
        says("13 BAD");
        SliceWhy x = chain();
        for (int p : NO_PLACES) {
            due("follows(" + p + ")", x.follows(p), BAD);
        }
    }

    private static void causesFromNoneToMost() {
        says("14 How many CAUSES a PLACE has");
        SliceWhy x = chain();
        due("none", x.causes(0), 0);
        due("one", x.causes(1), 1);
        SliceWhy y = allGoToTheFirst();
        due("all 24, itself with them", y.causes(0), 24);
        due("itself alone", y.causes(23), 1);
    }

    private static void causesOfNoPlace() {
        says("14 BAD");
        SliceWhy x = chain();
        for (int p : NO_PLACES) {
            due("causes(" + p + ")", x.causes(p), BAD);
        }
    }

    private static void causeFromFirstToLast() {
        says("15 Of its k-th CAUSE: the PLACE (what = 0), the kind (1)");
        SliceWhy x = program(l(NUMBER, 1, 1), l(SHARE, 0, 1, 1), l(ADD, 2, 0, 1));
        due("causes(2)", x.causes(2), 3);
        int[][] want = {{0, 1}, {1, 1}, {1, 4}};
        for (int k = 0; k < 3; k++) {
            due("cause(2, " + k + ", 0)", x.cause(2, k, 0), want[k][0]);
            due("cause(2, " + k + ", 1)", x.cause(2, k, 1), want[k][1]);
        }
        SliceWhy y = allGoToTheFirst();
        for (int k = 0; k < 24; k++) {
            due("cause(0, " + k + ", 0)", y.cause(0, k, 0), k);
            due("cause(0, " + k + ", 1)", y.cause(0, k, 1), 4);
        }
        due("cause(0, 24, 0)", y.cause(0, 24, 0), NONE);
    }

    private static void causeNotSoMany() {
        says("15 NONE: not so many");
        SliceWhy x = chain();
        for (int what = 0; what < 2; what++) {
            due("of none, the first", x.cause(0, 0, what), NONE);
            due("behind the only one", x.cause(1, 1, what), NONE);
            due("far behind", x.cause(1, 96, what), NONE);
            due("as far as can be", x.cause(1, MAX, what), NONE);
        }
    }

    private static void causeOfNoPlace() {
        says("15 BAD: p");
        SliceWhy x = chain();
        for (int p : NO_PLACES) {
            due("cause(" + p + ", 0, 0)", x.cause(p, 0, 0), BAD);
            due("cause(" + p + ", 0, 1)", x.cause(p, 0, 1), BAD);
        }
    }

    private static void causeOfNoNumber() {
        says("15 BAD: k");
        SliceWhy x = chain();
        due("cause(1, -1, 0)", x.cause(1, -1, 0), BAD);
        due("cause(1, -1, 1)", x.cause(1, -1, 1), BAD);
        due("cause(1, min, 0)", x.cause(1, MIN, 0), BAD);
        due("cause(0, -1, 0)", x.cause(0, -1, 0), BAD);
    }

    private static void causeOfAnotherWhat() {
        says("15 BAD: what");
        SliceWhy x = chain();
        int[] wrong = {-1, 2, MIN, MAX};
        for (int what : wrong) {
            due("cause(1, 0, " + what + ")", x.cause(1, 0, what), BAD);
            due("BAD before NONE", x.cause(1, 1, what), BAD);
        }
    }

    private static void chopFromNoneToAll() {
        says("16 CHOP");
        SliceWhy x = chain();
        due("chop(2, 0)", x.chop(2, 0), 0);
        due("chop(0, 2)", x.chop(0, 2), 7);
        due("chop(1, 1)", x.chop(1, 1), 2);
        due("all 24", longChain().chop(0, 23), (1 << 24) - 1);
        due("one with itself, in a loop", program(l(ADD, 0, 1, 1), l(ADD, 1, 0, 0), l(GO, 0, 0)).chop(0, 0), set(0, 1));
    }

    private static void chopOfNoPlace() {
        says("16 BAD");
        SliceWhy x = chain();
        for (int p : NO_PLACES) {
            due("chop(" + p + ", 0)", x.chop(p, 0), BAD);
            due("chop(0, " + p + ")", x.chop(0, p), BAD);
            due("chop(" + p + ", " + p + ")", x.chop(p, p), BAD);
        }
    }

    private static void wayFromOneToAll() {
        says("17 A WAY: how many PLACES");
        SliceWhy x = longChain();
        for (int v = 0; v < 24; v++) {
            due("way(" + v + ", 0)", x.way(v, 0), v + 1);
            due("way(" + v + ", " + v + ")", x.way(v, v), 1);
        }
        SliceWhy loop = program(l(ADD, 0, 0, 0), l(GO, 0, 0));
        due("one that HANGS on itself", loop.way(0, 0), 1);
        due("on(0)", loop.on(0), 0);
        due("on(1)", loop.on(1), NONE);
    }

    private static void wayThatThereIsNot() {
        says("17 NONE: u is not in BACK of v");
        SliceWhy x = chain();
        due("way(0, 2)", x.way(0, 2), NONE);
        due("way(0, 1)", x.way(0, 1), NONE);
        due("way(1, 0)", x.way(1, 0), 2);
        x.change(1, ADD, 1, 3, 3);
        due("way(2, 0)", x.way(2, 0), NONE);
    }

    private static void wayOfNoPlace() {
        says("17 BAD");
        SliceWhy x = chain();
        for (int p : NO_PLACES) {
            due("way(" + p + ", 0)", x.way(p, 0), BAD);
            due("way(0, " + p + ")", x.way(0, p), BAD);
            due("way(" + p + ", " + p + ")", x.way(p, p), BAD);
        }
    }

    private static void onBeforeAWay() {
        says("18 NONE: before a WAY");
        SliceWhy x = chain();
        due("new", x.on(0), NONE);
        x.way(0, 2);
        due("after none", x.on(0), NONE);
        x.way(0, 3);
        due("after BAD", x.on(0), NONE);
    }

    private static void onFromFirstToLast() {
        says("18 PLACE k of the latest WAY; NONE");
        SliceWhy x = longChain();
        x.way(23, 0);
        for (int k = 0; k < 24; k++) {
            due("on(" + k + ")", x.on(k), 23 - k);
        }
        int[] none = {-1, 24, 25, MIN, MAX};
        for (int k : none) {
            due("on(" + k + ")", x.on(k), NONE);
        }
        x.way(5, 4);
        due("of a shorter one", x.on(1), 4);
        due("behind it", x.on(2), NONE);
    }

    private static void onOfTheLatestWayThatThereWas() {
        says("18 the latest WAY that there was");
        SliceWhy x = chain();
        x.way(2, 0);
        due("NONE", x.way(0, 2), NONE);
        due("the one before", x.on(2), 0);
        due("BAD", x.way(3, 0), BAD);
        due("the one before", x.on(1), 1);
        x.change(1, PASS, 0, 0, 0);
        due("a change leaves it", x.on(1), 1);
        x.drop();
        x.drop();
        x.drop();
        due("drops leave it", x.on(0), 2);
        due("to its end", x.on(2), 0);
        due("and no more", x.on(3), NONE);
    }

    private static void nothingOfAnEmptyProgram() {
        says("12 to 17 BAD: there is no such PLACE, as there is none");
        SliceWhy x = new SliceWhy();
        due("slice(0, 0)", x.slice(0, 0), BAD);
        due("follows(0)", x.follows(0), BAD);
        due("causes(0)", x.causes(0), BAD);
        due("cause(0, 0, 0)", x.cause(0, 0, 0), BAD);
        due("chop(0, 0)", x.chop(0, 0), BAD);
        due("way(0, 0)", x.way(0, 0), BAD);
        due("on(0)", x.on(0), NONE);
    }
}
