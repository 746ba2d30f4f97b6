import java.util.Random;

/** All promises: runs of up to 512 calls, the same each time, that SliceWhy answers as SlowSlice does. */
public final class RandomCallsTest extends Checks {
    private static final int OBJECTS = 400, CALLS = 512, MOST_AT_ONCE = 8;
    private static final int[] FAR = {MIN, -5, -4, -1, 24, 25, 31, 32, MAX};

    private final Random random;
    private final SliceWhy x = new SliceWhy();
    private final SlowSlice slow = new SlowSlice();
    private final int object;
    private final int most;
    private int calls = 0;

    private RandomCallsTest(int object) {
        this.object = object;
        random = new Random(object);
        most = 2 + random.nextInt(object % 7 == 0 ? 23 : 11);
    }

    public static void main(String[] args) {
        int objects = args.length > 0 ? Integer.parseInt(args[0]) : OBJECTS;
        for (int object = 0; object < objects; object++) {
            RandomCallsTest one = new RandomCallsTest(object);
            for (int p = 0; p < one.most; p++) {
                one.addLine();
            }
            while (one.calls <= CALLS - MOST_AT_ONCE) {
                one.anyCall();
            }
        }
        end("RandomCallsTest");
    }

    private void agree(String call, int got, int want) {
        calls++;
        due("object " + object + ": " + call, got, want);
    }

    /** Mostly below the limit, now and then anywhere. */
    private int number(int limit) {
        int chance = random.nextInt(40);
        if (chance == 0) {
            return FAR[random.nextInt(FAR.length)];
        }
        return chance == 1 ? limit : random.nextInt(limit);
    }

    private int place() {
        return number(Math.max(1, slow.count(0)));
    }

    /** Few registers, so that they are read where they were set. */
    private int register() {
        return random.nextInt(5) == 0 ? number(8) : number(4);
    }

    private int value() {
        return random.nextInt(6) == 0 ? random.nextInt() : random.nextInt(5) - 1;
    }

    private int[] anyLine() {
        int kind = random.nextInt(5) == 0 ? 11 + random.nextInt(3) : number(14);
        int a = register();
        int b = register();
        int c = register();
        if (kind == 1) {
            b = value();
        } else if (kind == 2 || kind == 9 || kind == 10) {
            b = number(4);
        } else if (kind == 11 || kind == 12) {
            b = random.nextInt(8) == 0 ? number(25) : number(most);
        }
        if (kind == 7 || kind == 8) {
            c = number(4);
        }
        return new int[] {kind, a, b, c};
    }

    private void addLine() {
        int[] l = anyLine();
        agree("line(" + l[0] + ", " + l[1] + ", " + l[2] + ", " + l[3] + ")", x.line(l[0], l[1], l[2], l[3]),
            slow.line(l[0], l[1], l[2], l[3]));
    }

    private void anyCall() {
        int chance = random.nextInt(100);
        if (chance < 20) {
            editCall(random.nextInt(9));
        } else if (chance < 55) {
            runCall(random.nextInt(7));
        } else {
            hangCall(random.nextInt(9));
        }
    }

    private void editCall(int which) {
        switch (which) {
            case 0 -> {
                int[] l = anyLine();
                int p = place();
                agree("change(" + p + ", " + l[0] + ")", x.change(p, l[0], l[1], l[2], l[3]), slow.change(p, l[0], l[1], l[2], l[3]));
            }
            case 1 -> {
                if (random.nextInt(3) == 0) {
                    agree("drop()", x.drop(), slow.drop());
                }
            }
            case 2 -> {
                int g = number(4);
                int n = value();
                boolean fails = random.nextInt(3) == 0;
                agree("start(" + g + ")", x.start(g, n, fails), slow.start(g, n, fails));
            }
            case 3 -> {
                int name = number(4);
                int rows = number(16);
                agree("points(" + name + ", " + rows + ")", x.points(name, rows), slow.points(name, rows));
            }
            case 4 -> agree("test()", x.test(), slow.test());
            case 5 -> {
                if (random.nextInt(3) == 0) {
                    agree("untest()", x.untest(), slow.untest());
                }
            }
            case 6 -> {
                int what = number(4);
                agree("count(" + what + ")", x.count(what), slow.count(what));
            }
            case 7 -> {
                if (slow.count(0) < most || random.nextInt(6) == 0) {
                    addLine();
                }
            }
            default -> {
                int k = number(4);
                int v = value();
                agree("input(" + k + ", " + v + ")", x.input(k, v), slow.input(k, v));
            }
        }
    }

    private void runCall(int which) {
        switch (which) {
            case 0, 1 -> {
                int of = random.nextBoolean() ? -4 : place();
                int w = place();
                agree("run(" + of + ", " + w + ")", x.run(of, w), slow.run(of, w));
                agree("seen()", x.seen(), slow.seen());
                for (int k = 0; k < 4; k++) {
                    agree("saw(" + k + ")", x.saw(k), slow.saw(k));
                }
            }
            case 2 -> {
                int k = number(100);
                agree("saw(" + k + ")", x.saw(k), slow.saw(k));
            }
            case 3 -> {
                int what = number(10);
                agree("left(" + what + ")", x.left(what), slow.left(what));
            }
            case 4 -> {
                int p = place();
                agree("same(" + p + ")", x.same(p), slow.same(p));
            }
            case 5 -> {
                int p = place();
                agree("least(" + p + ")", x.least(p), slow.least(p));
            }
            default -> agree("seen()", x.seen(), slow.seen());
        }
    }

    private void hangCall(int which) {
        int p = place();
        switch (which) {
            case 0, 1 -> {
                int way = number(4);
                agree("slice(" + p + ", " + way + ")", x.slice(p, way), slow.slice(p, way));
            }
            case 2 -> agree("follows(" + p + ")", x.follows(p), slow.follows(p));
            case 3 -> agree("causes(" + p + ")", x.causes(p), slow.causes(p));
            case 4, 5 -> {
                int k = number(6);
                int what = number(2);
                agree("cause(" + p + ", " + k + ", " + what + ")", x.cause(p, k, what), slow.cause(p, k, what));
            }
            case 6 -> {
                int v = place();
                agree("chop(" + p + ", " + v + ")", x.chop(p, v), slow.chop(p, v));
            }
            default -> {
                int u = place();
                agree("way(" + p + ", " + u + ")", x.way(p, u), slow.way(p, u));
                for (int k = -1; k < 6; k++) {
                    agree("on(" + k + ")", x.on(k), slow.on(k));
                }
            }
        }
    }
}
