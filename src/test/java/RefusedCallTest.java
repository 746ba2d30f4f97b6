import java.util.ArrayList;
import java.util.LinkedHashMap;
import java.util.List;
import java.util.Map;
import java.util.function.Consumer;
import java.util.function.ToIntFunction;

/** "BAD ..; FULL; STATE as told; then nothing changes": after each call that is refused an object answers as its like. */
public final class RefusedCallTest extends Checks {
    public static void main(String[] args) {
        says("then nothing changes");
        Map<String, ToIntFunction<SliceWhy>> bad = badCalls();
        bad.forEach((call, refused) -> dueNoChange(call, BAD, refused, RefusedCallTest::fill));
        bad.forEach((call, refused) -> dueNoChange("empty: " + call, BAD, refused, x -> { }));
        dueNoChange("line, FULL", FULL, x -> x.line(NUMBER, 0, 77, 0), RefusedCallTest::fill);
        dueNoChange("test, FULL", FULL, SliceWhy::test, RefusedCallTest::fill);
        dueNoChange("drop, STATE", STATE, SliceWhy::drop, x -> { });
        dueNoChange("least, no TEST", STATE, x -> x.least(3), RefusedCallTest::fillWithoutTests);
        dueNoChange("least, SPENT", STATE, x -> x.least(3), RefusedCallTest::fillAndTurn);
        dueNoChange("way, NONE", NONE, x -> x.way(0, 23), RefusedCallTest::fill);
        dueNoChange("cause, NONE", NONE, x -> x.cause(0, 96, 0), RefusedCallTest::fill);
        end("RefusedCallTest");
    }

    private static Map<String, ToIntFunction<SliceWhy>> badCalls() {
        Map<String, ToIntFunction<SliceWhy>> calls = new LinkedHashMap<>();
        calls.put("line(14, 0, 0, 0)", x -> x.line(14, 0, 0, 0));
        calls.put("line(3, 0, 0, 8)", x -> x.line(ADD, 0, 0, 8));
        calls.put("change(24, 0, 0, 0, 0)", x -> x.change(24, PASS, 0, 0, 0));
        calls.put("change(-1, 0, 0, 0, 0)", x -> x.change(-1, PASS, 0, 0, 0));
        calls.put("change(0, 14, 0, 0, 0)", x -> x.change(0, 14, 0, 0, 0));
        calls.put("change(0, 3, 7, 7, 8)", x -> x.change(0, ADD, 7, 7, 8));
        calls.put("start(4, 5, true)", x -> x.start(4, 5, true));
        calls.put("start(-1, 5, false)", x -> x.start(-1, 5, false));
        calls.put("points(0, 0)", x -> x.points(0, 0));
        calls.put("points(3, 16)", x -> x.points(3, 16));
        calls.put("points(4, 2)", x -> x.points(4, 2));
        calls.put("input(4, 5)", x -> x.input(4, 5));
        calls.put("input(-1, 5)", x -> x.input(-1, 5));
        calls.put("run(NONE, 24)", x -> x.run(NONE, 24));
        calls.put("run(24, 0)", x -> x.run(24, 0));
        calls.put("run(-1, 0)", x -> x.run(-1, 0));
        calls.put("slice(24, 0)", x -> x.slice(24, 0));
        calls.put("slice(0, 4)", x -> x.slice(0, 4));
        calls.put("follows(24)", x -> x.follows(24));
        calls.put("causes(24)", x -> x.causes(24));
        calls.put("cause(24, 0, 0)", x -> x.cause(24, 0, 0));
        calls.put("cause(0, 0, 2)", x -> x.cause(0, 0, 2));
        calls.put("chop(0, 24)", x -> x.chop(0, 24));
        calls.put("way(24, 0)", x -> x.way(24, 0));
        calls.put("way(0, 24)", x -> x.way(0, 24));
        calls.put("same(24)", x -> x.same(24));
        calls.put("least(24)", x -> x.least(24));
        calls.put("count(3)", x -> x.count(3));
        return calls;
    }

    private static void dueNoChange(String call, int answer, ToIntFunction<SliceWhy> refused, Consumer<SliceWhy> filling) {
        SliceWhy one = new SliceWhy();
        SliceWhy like = new SliceWhy();
        filling.accept(one);
        filling.accept(like);
        due(call, refused.applyAsInt(one), answer);
        List<Integer> got = all(one);
        List<Integer> want = all(like);
        due(call + ": answers behind it", got.size(), want.size());
        for (int k = 0; k < want.size(); k++) {
            due(call + ": answer " + k + " behind it", got.get(k), want.get(k));
        }
    }

    /** 24 PLACES, 3 TESTS, a run() and a WAY, and nothing as it is at first. */
    private static void fill(SliceWhy x) {
        fillWithoutTests(x);
        for (int t = 0; t < 3; t++) {
            x.input(0, 20 + t);
            x.test();
        }
        x.input(0, 30);
    }

    private static void fillAndTurn(SliceWhy x) {
        fill(x);
        x.change(1, IF, 7, 1, 0);
    }

    private static void fillWithoutTests(SliceWhy x) {
        for (int p = 0; p < 24; p++) {
            int[] l = fullProgram()[p];
            x.line(l[0], l[1], l[2], l[3]);
        }
        for (int k = 0; k < 4; k++) {
            x.input(k, 30 + k);
            x.start(k, 40 + k, false);
            x.points(k, 1 << 3 - k | 1);
        }
        x.run(NONE, 22);
        x.way(22, 0);
    }

    private static int[][] fullProgram() {
        return new int[][] {
            {INPUT, 0, 0, 0}, {INPUT, 1, 1, 0}, {INPUT, 2, 2, 0}, {INPUT, 3, 3, 0}, {USE, 4, 0, 0}, {USE, 5, 1, 0}, {USE, 6, 2, 0},
            {USE, 7, 3, 0}, {PUT, 0, 1, 0}, {PUT, 1, 2, 1}, {PUT, 2, 3, 2}, {PUT, 3, 4, 3}, {ADD, 0, 0, 1}, {ADD, 0, 0, 2},
            {ADD, 0, 0, 3}, {ADD, 0, 0, 4}, {ADD, 0, 0, 5}, {ADD, 0, 0, 6}, {ADD, 0, 0, 7}, {GET, 1, 1, 0}, {GET, 2, 2, 1},
            {GET, 3, 3, 2}, {ADD, 0, 0, 1}, {GET, 4, 4, 3}};
    }

    /** All that an object tells of itself; the calls that change it come last. */
    private static List<Integer> all(SliceWhy x) {
        List<Integer> told = new ArrayList<>();
        for (int what = 0; what < 3; what++) {
            told.add(x.count(what));
        }
        told.add(x.seen());
        for (int k = 0; k < 3; k++) {
            told.add(x.saw(k));
        }
        for (int what = 0; what < 10; what++) {
            told.add(x.left(what));
        }
        for (int k = 0; k < 8; k++) {
            told.add(x.on(k));
        }
        for (int p = 0; p < 24; p++) {
            told.add(x.slice(p, 0));
            told.add(x.slice(p, 1));
            told.add(x.causes(p));
            told.add(x.same(p));
        }
        told.add(x.least(22));
        told.add(x.least(19));
        tellByChanges(x, told);
        return told;
    }

    private static void tellByChanges(SliceWhy x, List<Integer> told) {
        told.add(x.run(NONE, 22));
        for (int what = 0; what < 10; what++) {
            told.add(x.left(what));
        }
        told.add(x.count(2));
        for (int name = 0; name < 4; name++) {
            told.add(x.points(name, 15));
        }
        told.add(x.untest());
        told.add(x.test());
        told.add(x.least(22));
        for (int p = 23; p >= 0; p--) {
            told.add(x.change(p, PASS, 0, 0, 0));
            told.add(x.drop());
        }
        told.add(x.drop());
        told.add(x.line(STOP, 0, 0, 0));
        told.add(x.run(NONE, 0));
        told.add(x.left(0));
    }
}
