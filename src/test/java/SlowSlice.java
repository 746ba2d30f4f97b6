import java.util.ArrayDeque;
import java.util.ArrayList;
import java.util.Deque;
import java.util.List;
import java.util.Map;
import java.util.SortedSet;
import java.util.TreeMap;
import java.util.TreeSet;
import java.util.function.IntPredicate;

/** The document's words once more, as plainly and slowly as they can be said, to compare SliceWhy with. */
final class SlowSlice {
    private static final int END = 1000;

    private record Place(int kind, int a, int b, int c) {
    }

    private record Cause(int place, int kind) {
    }

    private record Outcome(int how, int steps, int failedAt, List<Integer> told, int[] registers) {
    }

    private final List<Place> places = new ArrayList<>();
    private final List<int[]> tests = new ArrayList<>();
    private final Integer[] starts = {0, 0, 0, 0};
    private final int[] rowsOfName = {1, 1, 1, 1};
    private final int[] inputs = new int[4];
    private Outcome latest = new Outcome(0, 0, -4, List.of(), new int[8]);
    private List<Integer> latestWay = List.of();
    private int runs = 0;

    private static boolean in(int value, int limit) {
        return 0 <= value && value < limit;
    }

    private boolean isPlace(int p) {
        return in(p, places.size());
    }

    private static boolean isFine(int kind, int a, int b, int c) {
        return switch (kind) {
            case 0, 13 -> true;
            case 1 -> in(a, 8);
            case 2, 9, 10 -> in(a, 8) && in(b, 4);
            case 3, 4, 5, 6 -> in(a, 8) && in(b, 8) && in(c, 8);
            case 7, 8 -> in(a, 8) && in(b, 8) && in(c, 4);
            case 11 -> in(a, 8) && in(b, 25);
            case 12 -> in(b, 25);
            default -> false;
        };
    }

    int line(int kind, int a, int b, int c) {
        if (!isFine(kind, a, b, c)) {
            return -1;
        }
        if (places.size() == 24) {
            return -2;
        }
        places.add(new Place(kind, a, b, c));
        return places.size() - 1;
    }

    int change(int p, int kind, int a, int b, int c) {
        if (!isPlace(p) || !isFine(kind, a, b, c)) {
            return -1;
        }
        return places.set(p, new Place(kind, a, b, c)).kind();
    }

    int drop() {
        if (places.isEmpty()) {
            return -3;
        }
        places.remove(places.size() - 1);
        return places.size();
    }

    int start(int g, int n, boolean fails) {
        if (!in(g, 4)) {
            return -1;
        }
        starts[g] = fails ? null : Integer.valueOf(n);
        return 1;
    }

    int points(int name, int rows) {
        if (!in(name, 4) || rows < 1 || rows > 15) {
            return -1;
        }
        int was = rowsOfName[name];
        rowsOfName[name] = rows;
        return was;
    }

    int input(int k, int v) {
        if (!in(k, 4)) {
            return -1;
        }
        inputs[k] = v;
        return 1;
    }

    private SortedSet<Integer> whole() {
        SortedSet<Integer> all = new TreeSet<>();
        for (int p = 0; p < places.size(); p++) {
            all.add(p);
        }
        return all;
    }

    private Outcome outcome(SortedSet<Integer> set, int[] in, int watched) {
        int[] r = new int[8];
        int[][] rows = new int[4][8];
        Map<Integer, Integer> globals = new TreeMap<>();
        for (int g = 0; g < 4; g++) {
            if (starts[g] != null) {
                globals.put(g, starts[g]);
            }
        }
        int[][] named = new int[4][];
        for (int name = 0; name < 4; name++) {
            List<Integer> may = new ArrayList<>();
            for (int row = 0; row < 4; row++) {
                if ((rowsOfName[name] & 1 << row) != 0) {
                    may.add(row);
                }
            }
            named[name] = rows[may.get((in[3] & 0x7fffffff) % may.size())];
        }
        List<Integer> told = new ArrayList<>();
        int at = 0;
        int steps = 0;
        while (at < places.size()) {
            if (!set.contains(at)) {
                at++;
                continue;
            }
            if (steps == 100) {
                return new Outcome(2, steps, -4, told, r);
            }
            steps++;
            Place p = places.get(at);
            boolean fails = p.kind == 6 && r[p.c] == 0 || (p.kind == 9 || p.kind == 10) && !globals.containsKey(p.b);
            if (fails) {
                if (at == watched) {
                    told.add(1000000007);
                }
                return new Outcome(1, steps, at, told, r);
            }
            int tells = 0;
            int to = at + 1;
            switch (p.kind) {
                case 1 -> tells = r[p.a] = p.b;
                case 2 -> tells = r[p.a] = in[p.b];
                case 3 -> tells = r[p.a] = (int) ((long) r[p.b] + r[p.c]);
                case 4 -> tells = r[p.a] = Integer.compare(r[p.b], r[p.c]) < 0 ? 1 : 0;
                case 5 -> tells = r[p.a] = (int) ((long) r[p.b] * r[p.c]);
                case 6 -> tells = r[p.a] = (int) ((long) r[p.b] / r[p.c]);
                case 7 -> tells = named[p.c][Math.floorMod(r[p.b], 8)] = r[p.a];
                case 8 -> tells = r[p.a] = named[p.c][Math.floorMod(r[p.b], 8)];
                case 9 -> tells = r[p.a] = globals.get(p.b);
                case 10 -> {
                    globals.put(p.b, r[p.a]);
                    tells = r[p.a];
                }
                case 11 -> {
                    tells = r[p.a] == 0 ? 1 : 0;
                    to = r[p.a] == 0 ? p.b : to;
                }
                case 12 -> to = p.b;
                case 13 -> to = END;
                default -> {
                }
            }
            if (at == watched) {
                told.add(tells);
            }
            at = to;
        }
        return new Outcome(0, steps, -4, told, r);
    }

    int run(int of, int w) {
        if (!isPlace(w) || of != -4 && !isPlace(of)) {
            return -1;
        }
        runs++;
        latest = outcome(of == -4 ? whole() : back(of, false), inputs, w);
        return latest.how;
    }

    int seen() {
        return latest.told.size();
    }

    int saw(int k) {
        return in(k, latest.told.size()) ? latest.told.get(k) : 0;
    }

    int left(int what) {
        if (what == 0) {
            return latest.steps;
        }
        if (what == 1) {
            return latest.failedAt;
        }
        return in(what - 2, 8) ? latest.registers[what - 2] : 0;
    }

    private int placeOrEnd(int p) {
        return isPlace(p) ? p : END;
    }

    private SortedSet<Integer> nexts(int at, boolean wider) {
        Place p = places.get(at);
        SortedSet<Integer> found = new TreeSet<>();
        boolean mayFail = p.kind == 6 || (p.kind == 9 || p.kind == 10) && starts[p.b] == null;
        if (p.kind != 12 && p.kind != 13 || wider) {
            found.add(placeOrEnd(at + 1));
        }
        if (p.kind == 11 || p.kind == 12) {
            found.add(placeOrEnd(p.b));
        }
        if (p.kind == 13 || mayFail) {
            found.add(END);
        }
        return found;
    }

    /** Whether a way of one or more leads from u to v, all PLACES between being fine. */
    private boolean leads(int u, int v, boolean wider, IntPredicate between) {
        Deque<Integer> open = new ArrayDeque<>(nexts(u, wider));
        SortedSet<Integer> met = new TreeSet<>();
        while (!open.isEmpty()) {
            int p = open.pop();
            if (p == v) {
                return true;
            }
            if (p != END && met.add(p) && between.test(p)) {
                open.addAll(nexts(p, wider));
            }
        }
        return false;
    }

    private boolean doesFollow(int v, int u) {
        return v != u && !leads(u, END, true, p -> p != v);
    }

    private String sets(int at) {
        Place p = places.get(at);
        return switch (p.kind) {
            case 1, 2, 3, 4, 5, 6, 8, 9 -> "r" + p.a;
            case 10 -> "g" + p.b;
            default -> "";
        };
    }

    private SortedSet<String> reads(int at, boolean thin) {
        Place p = places.get(at);
        SortedSet<String> found = new TreeSet<>();
        switch (p.kind) {
            case 3, 4, 5, 6 -> found.addAll(List.of("r" + p.b, "r" + p.c).subList(0, p.b == p.c ? 1 : 2));
            case 7 -> {
                found.add("r" + p.a);
                if (!thin || p.b == p.a) {
                    found.add("r" + p.b);
                }
            }
            case 8 -> {
                if (!thin) {
                    found.add("r" + p.b);
                }
            }
            case 9 -> found.add("g" + p.b);
            case 10 -> found.add("r" + p.a);
            case 11 -> {
                if (!thin) {
                    found.add("r" + p.a);
                }
            }
            default -> {
            }
        }
        return found;
    }

    private boolean hangs(int v, int u, int kind, boolean thin) {
        Place pu = places.get(u);
        Place pv = places.get(v);
        if (kind == 1 || kind == 3) {
            String x = sets(u);
            return x.startsWith(kind == 1 ? "r" : "g") && reads(v, thin).contains(x)
                && leads(u, v, false, p -> !sets(p).equals(x));
        }
        if (kind == 2) {
            return pu.kind == 7 && pv.kind == 8 && (rowsOfName[pu.c] & rowsOfName[pv.c]) != 0
                && leads(u, v, false, p -> true);
        }
        if (doesFollow(v, u)) {
            return false;
        }
        for (int s : nexts(u, true)) {
            if (s == v || s != END && doesFollow(v, s)) {
                return true;
            }
        }
        return false;
    }

    private List<Cause> causesOf(int v, boolean thin) {
        List<Cause> found = new ArrayList<>();
        for (int u = 0; u < places.size(); u++) {
            for (int kind = 1; kind <= (thin ? 3 : 4); kind++) {
                if (hangs(v, u, kind, thin)) {
                    found.add(new Cause(u, kind));
                }
            }
        }
        return found;
    }

    private SortedSet<Integer> back(int v, boolean thin) {
        SortedSet<Integer> found = new TreeSet<>();
        Deque<Integer> open = new ArrayDeque<>(List.of(v));
        while (!open.isEmpty()) {
            int p = open.pop();
            if (found.add(p)) {
                causesOf(p, thin).forEach(cause -> open.push(cause.place));
            }
        }
        return found;
    }

    private SortedSet<Integer> forward(int u, boolean thin) {
        SortedSet<Integer> found = whole();
        found.removeIf(v -> !back(v, thin).contains(u));
        return found;
    }

    private static int bits(SortedSet<Integer> set) {
        return set.stream().mapToInt(p -> 1 << p).sum();
    }

    int slice(int p, int way) {
        if (!isPlace(p) || !in(way, 4)) {
            return -1;
        }
        boolean thin = way % 2 == 1;
        return bits(way < 2 ? back(p, thin) : forward(p, thin));
    }

    int follows(int p) {
        if (!isPlace(p)) {
            return -1;
        }
        SortedSet<Integer> found = whole();
        found.removeIf(v -> !doesFollow(v, p));
        return bits(found);
    }

    int causes(int p) {
        return isPlace(p) ? causesOf(p, false).size() : -1;
    }

    int cause(int p, int k, int what) {
        if (!isPlace(p) || k < 0 || !in(what, 2)) {
            return -1;
        }
        List<Cause> all = causesOf(p, false);
        if (k >= all.size()) {
            return -4;
        }
        return what == 0 ? all.get(k).place : all.get(k).kind;
    }

    int chop(int u, int v) {
        if (!isPlace(u) || !isPlace(v)) {
            return -1;
        }
        SortedSet<Integer> both = forward(u, false);
        both.retainAll(back(v, false));
        return bits(both);
    }

    int way(int v, int u) {
        if (!isPlace(u) || !isPlace(v)) {
            return -1;
        }
        if (!back(v, false).contains(u)) {
            return -4;
        }
        List<List<Integer>> causePlaces = new ArrayList<>();
        for (int p = 0; p < places.size(); p++) {
            causePlaces.add(causesOf(p, false).stream().map(Cause::place).distinct().toList());
        }
        // All ways of one length stand in their order, so that the first one that gets there is the one.
        List<List<Integer>> ways = List.of(List.of(v));
        SortedSet<Integer> met = new TreeSet<>();
        while (true) {
            List<List<Integer>> longer = new ArrayList<>();
            for (List<Integer> one : ways) {
                int last = one.get(one.size() - 1);
                if (last == u) {
                    latestWay = one;
                    return one.size();
                }
                if (met.add(last)) {
                    for (int p : causePlaces.get(last)) {
                        List<Integer> more = new ArrayList<>(one);
                        more.add(p);
                        longer.add(more);
                    }
                }
            }
            ways = longer;
        }
    }

    int on(int k) {
        return in(k, latestWay.size()) ? latestWay.get(k) : -4;
    }

    int same(int p) {
        if (!isPlace(p)) {
            return -1;
        }
        Outcome all = outcome(whole(), inputs, p);
        if (all.how == 2) {
            return 2;
        }
        return outcome(back(p, false), inputs, p).told.equals(all.told) ? 1 : 0;
    }

    int test() {
        if (tests.size() == 3) {
            return -2;
        }
        tests.add(inputs.clone());
        return tests.size() - 1;
    }

    int untest() {
        int n = tests.size();
        tests.clear();
        return n;
    }

    int least(int p) {
        if (!isPlace(p)) {
            return -1;
        }
        if (tests.isEmpty() || tests.stream().anyMatch(t -> outcome(whole(), t, p).how == 2)) {
            return -3;
        }
        SortedSet<Integer> rest = back(p, false);
        boolean went;
        do {
            went = false;
            for (int q : new TreeSet<>(rest).descendingSet()) {
                SortedSet<Integer> without = new TreeSet<>(rest);
                without.remove(q);
                boolean agree = q != p && tests.stream().allMatch(t -> {
                    Outcome part = outcome(without, t, p);
                    return part.how != 2 && part.told.equals(outcome(whole(), t, p).told);
                });
                if (agree) {
                    rest = without;
                    went = true;
                }
            }
        } while (went);
        return bits(rest);
    }

    int count(int what) {
        return switch (what) {
            case 0 -> places.size();
            case 1 -> tests.size();
            case 2 -> runs;
            default -> -1;
        };
    }
}
