import java.util.ArrayList;
import java.util.List;

/** All that can be seen of a bench without changing it, in some 140 calls. */
final class Look {
    private Look() {
    }

    static void same(String name, SpanBench one, SpanBench other) {
        List<String> names = new ArrayList<>();
        List<Long> seen = at(one, names);
        List<Long> due = at(other, new ArrayList<>());
        for (int i = 0; i < seen.size(); i++) {
            Due.is(name + ": " + names.get(i), seen.get(i), due.get(i));
        }
    }

    private static List<Long> at(SpanBench x, List<String> names) {
        List<Long> seen = new ArrayList<>();
        for (int what = 0; what < 4; what++) {
            put(names, seen, "of " + what, x.of(what));
            put(names, seen, "ground " + what, x.ground(what));
        }
        put(names, seen, "a of the point", x.where(0));
        put(names, seen, "b of the point", x.where(1));
        put(names, seen, "words of 3", x.words(3));
        put(names, seen, "classes", x.classes());
        put(names, seen, "loop", x.loop());
        for (int k = 0; k <= 8; k++) {
            put(names, seen, "a of length " + k, x.spans(k, 0));
            put(names, seen, "b of length " + k, x.spans(k, 1));
        }
        for (int k = 0; k < 8; k++) {
            put(names, seen, "above " + k, x.order(0, k));
            put(names, seen, "below " + k, x.order(1, k));
            for (int what = 0; what < 3; what++) {
                put(names, seen, "round " + k + " " + what, x.round(k, what));
            }
        }
        int n = x.of(0);
        for (int i = 0; i < n; i++) {
            for (int j = 0; j < n; j++) {
                put(names, seen, "table " + i + " " + j, x.table(i, j));
            }
        }
        return seen;
    }

    private static void put(List<String> names, List<Long> seen, String name, long answer) {
        names.add(name);
        seen.add(answer);
    }
}
