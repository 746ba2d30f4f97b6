import java.util.Random;

/**
 * What the document says of all programs at once ("which see the same", "the fewest", "till none went" ..), on random ones:
 * the answers are held against each other, not against another program that may read the document the same wrong way.
 */
public final class PropertiesTest extends Checks {
    private static final int PROGRAMS = 600;

    private final Random random;
    private final int[][] lines;
    private final int[] inputs = new int[4];
    private final int[] mayBe = new int[4];
    private final boolean[] fails = new boolean[4];
    private final int size;

    private PropertiesTest(int seed) {
        random = new Random(seed);
        size = 1 + random.nextInt(seed % 5 == 0 ? 24 : 10);
        lines = new int[size][];
        for (int p = 0; p < size; p++) {
            lines[p] = anyLine();
        }
        for (int i = 0; i < 4; i++) {
            inputs[i] = random.nextInt(4);
            mayBe[i] = 1 + random.nextInt(15);
            fails[i] = random.nextInt(8) == 0;
        }
    }

    public static void main(String[] args) {
        int programs = args.length > 0 ? Integer.parseInt(args[0]) : PROGRAMS;
        for (int seed = 0; seed < programs; seed++) {
            PropertiesTest one = new PropertiesTest(seed);
            one.slicesOfOneAnother();
            one.followersOfFollowers();
            for (int p = 0; p < one.size; p++) {
                one.causesInOrder(p);
                one.seesTheSame(p);
                one.leastIsLeast(p);
            }
            one.fewestOfAllWays();
        }
        end("PropertiesTest");
    }

    private int[] anyLine() {
        int kind = random.nextInt(4) == 0 ? 11 + random.nextInt(2) : random.nextInt(14);
        int b = kind == 11 || kind == 12 ? random.nextInt(size + 1) : random.nextInt(4);
        return new int[] {kind, random.nextInt(4), b, random.nextInt(4)};
    }

    /** A new object each time, as one is used for 512 calls at most. */
    private SliceWhy fresh() {
        SliceWhy x = program(lines);
        for (int i = 0; i < 4; i++) {
            x.input(i, inputs[i]);
            x.points(i, mayBe[i]);
            x.start(i, i, fails[i]);
        }
        return x;
    }

    private static boolean holds(int set, int p) {
        return (set >> p & 1) != 0;
    }

    private void slicesOfOneAnother() {
        SliceWhy x = fresh();
        int[][] slices = new int[4][size];
        for (int p = 0; p < size; p++) {
            for (int way = 0; way < 4; way++) {
                slices[way][p] = x.slice(p, way);
            }
        }
        for (int p = 0; p < size; p++) {
            says("BACK of v: v, and all that any of these HANG on");
            due("v", slices[0][p] >> p & 1, 1);
            due("THIN is in it", slices[1][p] & ~slices[0][p], 0);
            for (int q = 0; q < size; q++) {
                boolean within = holds(slices[0][p], q);
                due("BACK of one in it", within ? slices[0][q] & ~slices[0][p] : 0, 0);
                says("FORWARD of u: all whose BACK has u; THINLY: whose THIN has u");
                due("FORWARD", slices[2][q] >> p & 1, slices[0][p] >> q & 1);
                due("THINLY", slices[3][q] >> p & 1, slices[1][p] >> q & 1);
            }
        }
        says("A CHOP of u, v: PLACES in FORWARD of u and BACK of v");
        SliceWhy y = fresh();
        for (int n = 0; n < 400; n++) {
            int u = random.nextInt(size);
            int v = random.nextInt(size);
            due("chop(" + u + ", " + v + ")", y.chop(u, v), slices[2][u] & slices[0][v]);
        }
    }

    private void followersOfFollowers() {
        says("v FOLLOWS u (v is not u): each way of WIDER NEXTS from u to the END goes by v");
        SliceWhy x = fresh();
        int[] follows = new int[size];
        for (int p = 0; p < size; p++) {
            follows[p] = x.follows(p);
        }
        for (int u = 0; u < size; u++) {
            due("not itself", follows[u] >> u & 1, 0);
            for (int v = 0; v < size; v++) {
                if (holds(follows[u], v)) {
                    due("what FOLLOWS one that FOLLOWS", follows[v] & ~follows[u], 0);
                    due("none FOLLOW each other", follows[v] >> u & 1, 0);
                }
            }
        }
    }

    private int causesAsBits(SliceWhy x, int p) {
        int bits = 0;
        int many = x.causes(p);
        for (int k = 0; k < many; k++) {
            bits |= 1 << x.cause(p, k, 0);
        }
        return bits;
    }

    private void causesInOrder(int p) {
        says("CAUSES of v: PLACES on which it HANGS, by their numbers, each as often as there are kinds, by these");
        SliceWhy x = fresh();
        int many = x.causes(p);
        int before = -1;
        for (int k = 0; k < many; k++) {
            int place = x.cause(p, k, 0);
            int kind = x.cause(p, k, 1);
            due("kind " + kind, kind >= 1 && kind <= 4 ? 1 : 0, 1);
            due("it is behind the one before", place * 5 + kind > before ? 1 : 0, 1);
            before = place * 5 + kind;
        }
        due("not so many", x.cause(p, many, 0), NONE);
        due("not so many", x.cause(p, many, 1), NONE);
        int back = 1 << p;
        for (int round = 0; round < size; round++) {
            for (int q = 0; q < size; q++) {
                back |= holds(back, q) ? causesAsBits(fresh(), q) : 0;
            }
        }
        due("BACK is all CAUSES of CAUSES", x.slice(p, 0), back);
    }

    private void seesTheSame(int p) {
        says("runs of the whole and of what a slice leaves of it, which see the same");
        SliceWhy whole = fresh();
        SliceWhy part = fresh();
        int ending = whole.run(NONE, p);
        due("same", whole.same(p), ending == 2 ? 2 : 1);
        if (ending == 2) {
            return;
        }
        part.run(p, p);
        due("seen", part.seen(), whole.seen());
        for (int k = 0; k < whole.seen(); k++) {
            due("saw(" + k + ")", part.saw(k), whole.saw(k));
        }
    }

    private void leastIsLeast(int p) {
        says("each goes out, if with those that are left then p TELLS the same in each TEST");
        SliceWhy x = fresh();
        int spent = 0;
        for (int t = 0; t < 3; t++) {
            x.input(0, t);
            x.input(1, random.nextInt(5) - 2);
            x.test();
            spent |= x.run(NONE, p) == 2 ? 1 : 0;
        }
        int least = x.least(p);
        if (spent == 1) {
            due("the whole is SPENT", least, STATE);
            return;
        }
        due("p is left", least >> p & 1, 1);
        due("it is in BACK", least & ~x.slice(p, 0), 0);
        due("the same again", x.least(p), least);
    }

    private void fewestOfAllWays() {
        says("A WAY from v to u: the fewest; of several at each step the least PLACE that may be");
        int[] causes = new int[size];
        for (int p = 0; p < size; p++) {
            causes[p] = causesAsBits(fresh(), p);
        }
        for (int v = 0; v < size; v++) {
            int u = random.nextInt(size);
            SliceWhy x = fresh();
            int length = x.way(v, u);
            int fewest = stepsTo(causes, v, u);
            due("way(" + v + ", " + u + ")", length, fewest < 0 ? NONE : fewest + 1);
            int at = v;
            for (int k = 0; k < length; k++) {
                due("on(" + k + ")", x.on(k), at);
                at = leastNearer(causes, at, u, length - 2 - k);
            }
            due("behind the last", x.on(Math.max(0, length)), NONE);
        }
    }

    private int leastNearer(int[] causes, int at, int u, int steps) {
        for (int q = 0; q < size; q++) {
            if (holds(causes[at], q) && stepsTo(causes, q, u) == steps) {
                return q;
            }
        }
        return -1;
    }

    /** How many CAUSES of CAUSES lead from v to u; -1: none do. */
    private int stepsTo(int[] causes, int v, int u) {
        int front = 1 << v;
        for (int steps = 0; steps <= size; steps++) {
            if (holds(front, u)) {
                return steps;
            }
            int next = 0;
            for (int q = 0; q < size; q++) {
                next |= holds(front, q) ? causes[q] : 0;
            }
            front = next;
        }
        return -1;
    }
}
