import java.util.ArrayList;
import java.util.Collection;
import java.util.Collections;
import java.util.LinkedHashSet;
import java.util.List;
import java.util.Map;
import java.util.NoSuchElementException;
import java.util.Set;
import java.util.TreeMap;
import java.util.TreeSet;
import java.util.function.Function;
import java.util.function.Supplier;

/**
 * The document once more, written as simply as can be and in another way than the program:
 * every state is a whole copy, kept tiles are only names, and palettes are found by trying.
 */
final class Model {
    private static final class L {
        char kind;
        int group, opacity = 255, ox, oy, first, second;
        char mode = 'n', change = 'i';
        boolean shown = true, passing, locked;
        int[][] value = new int[16][16], alpha = new int[16][16], mask;

        L copy() {
            L l = new L();
            l.kind = kind; l.group = group; l.opacity = opacity; l.ox = ox; l.oy = oy; l.first = first; l.second = second;
            l.mode = mode; l.change = change; l.shown = shown; l.passing = passing; l.locked = locked;
            l.value = deep(value); l.alpha = deep(alpha); l.mask = mask == null ? null : deep(mask);
            return l;
        }
    }

    private static final class S {
        int parent = -1;
        Set<Integer> touched = new TreeSet<>();
        TreeMap<Integer, L> layers = new TreeMap<>();
        TreeMap<Integer, List<Integer>> orders = new TreeMap<>();
        int[][] selection = new int[16][16];

        S copy() {
            S s = new S();
            layers.forEach((n, l) -> s.layers.put(n, l.copy()));
            orders.forEach((g, o) -> s.orders.put(g, new ArrayList<>(o)));
            s.selection = deep(selection);
            return s;
        }

        List<Integer> order(int group) {
            return orders.computeIfAbsent(group, g -> new ArrayList<>());
        }
    }

    private interface Plan {
        /** The new value and alpha of a pixel, or null. */
        int[] at(L old, int x, int y);
    }

    private static int[][] deep(int[][] a) {
        int[][] b = new int[a.length][];
        for (int i = 0; i < a.length; i++) {
            b[i] = a[i].clone();
        }
        return b;
    }

    private final List<S> all = new ArrayList<>();
    private final LinkedHashSet<Integer> kept = new LinkedHashSet<>();
    private final List<List<Function<Integer, Integer>>> records = new ArrayList<>();
    private List<Function<Integer, Integer>> recording;
    private int present, given, limit = 16, renderings;

    Model() {
        S s = new S();
        for (int[] row : s.selection) {
            java.util.Arrays.fill(row, 255);
        }
        all.add(s);
    }

    private S s() {
        return all.get(present);
    }

    private static void when(boolean condition, Supplier<RuntimeException> exception) {
        if (condition) {
            throw exception.get();
        }
    }

    private void noLayer(int n) {
        when(!s().layers.containsKey(n), IndexOutOfBoundsException::new);
    }

    private void out(int... triples) {
        for (int i = 0; i < triples.length; i += 3) {
            when(triples[i] < triples[i + 1] || triples[i] > triples[i + 2], IllegalArgumentException::new);
        }
    }

    private void notKind(int n, char kind) {
        when(s().layers.get(n).kind != kind, UnsupportedOperationException::new);
    }

    private void full() {
        when(all.size() == 60, IllegalStateException::new);
    }

    private boolean shown(S s, int n) {
        L l = s.layers.get(n);
        return l != null && l.shown && (l.group == -1 || shown(s, l.group));
    }

    private int edit(S next, int layer, Collection<Integer> tiles) {
        if (shown(s(), layer) || shown(next, layer)) {
            next.touched.addAll(tiles);
        }
        next.parent = present;
        all.add(next);
        present = all.size() - 1;
        kept.removeAll(next.touched);
        return present;
    }

    private static Set<Integer> allTiles() {
        Set<Integer> tiles = new TreeSet<>();
        for (int i = 0; i < 16; i++) {
            tiles.add(i);
        }
        return tiles;
    }

    private static int p(int a, int b) {
        return (a * b + 127) / 255;
    }

    private static boolean in(int x, int y) {
        return x >= 0 && x <= 15 && y >= 0 && y <= 15;
    }

    /** For the choice of calls: the layers of a kind, those with a mask for 'm', all for '*'. */
    List<Integer> layersOf(char kind) {
        List<Integer> numbers = new ArrayList<>();
        s().layers.forEach((n, l) -> {
            if (l.kind == kind || kind == '*' || kind == 'm' && l.mask != null) {
                numbers.add(n);
            }
        });
        return numbers;
    }

    // layers

    int addLayer(char kind, int group) {
        when(group != -1 && !s().layers.containsKey(group), IndexOutOfBoundsException::new);
        when(kind != 'p' && kind != 'g' && kind != 'a', IllegalArgumentException::new);
        when(group != -1 && s().layers.get(group).kind != 'g', UnsupportedOperationException::new);
        when(group != -1 && kind == 'g' && s().layers.get(group).group != -1, UnsupportedOperationException::new);
        when(s().layers.size() == 8 || given == 30 || all.size() == 60, IllegalStateException::new);
        S next = s().copy();
        L l = new L();
        l.kind = kind;
        l.group = group;
        next.layers.put(given, l);
        next.order(group).add(given);
        edit(next, given, allTiles());
        return given++;
    }

    int setLook(int n, int opacity, char mode, boolean isShown) {
        noLayer(n);
        out(opacity, 0, 255);
        when("nmsadkl".indexOf(mode) == -1, IllegalArgumentException::new);
        full();
        S next = s().copy();
        L l = next.layers.get(n);
        l.opacity = opacity;
        l.mode = mode;
        l.shown = isShown;
        return edit(next, n, allTiles());
    }

    int setPassing(int n, boolean isPassing) {
        noLayer(n);
        notKind(n, 'g');
        full();
        S next = s().copy();
        next.layers.get(n).passing = isPassing;
        return edit(next, n, allTiles());
    }

    int setChange(int n, char kind, int first, int second) {
        noLayer(n);
        when(kind != 'i' && kind != 't' && kind != 'l', IllegalArgumentException::new);
        when(kind != 'i' && (first < 0 || first > 255), IllegalArgumentException::new);
        when(kind == 'l' && (second <= first || second > 255), IllegalArgumentException::new);
        notKind(n, 'a');
        full();
        S next = s().copy();
        L l = next.layers.get(n);
        l.change = kind;
        l.first = first;
        l.second = second;
        return edit(next, n, allTiles());
    }

    int setOffset(int n, int x, int y) {
        noLayer(n);
        out(x, -15, 15, y, -15, 15);
        notKind(n, 'p');
        full();
        S next = s().copy();
        next.layers.get(n).ox = x;
        next.layers.get(n).oy = y;
        return edit(next, n, allTiles());
    }

    int lock(int n, boolean isLocked) {
        noLayer(n);
        notKind(n, 'p');
        full();
        S next = s().copy();
        next.layers.get(n).locked = isLocked;
        return edit(next, n, List.of());
    }

    int move(int n, int place) {
        noLayer(n);
        List<Integer> order = s().order(s().layers.get(n).group);
        when(place < 0 || place >= order.size(), IllegalArgumentException::new);
        full();
        int before = order.indexOf(n);
        S next = s().copy();
        List<Integer> changed = next.order(s().layers.get(n).group);
        changed.remove(before);
        changed.add(place, n);
        edit(next, n, allTiles());
        return before;
    }

    int remove(int n) {
        noLayer(n);
        full();
        S next = s().copy();
        next.order(next.layers.get(n).group).remove((Integer) n);
        take(next, n);
        edit(next, n, allTiles());
        return next.layers.size();
    }

    private void take(S next, int n) {
        for (int inside : new ArrayList<>(next.order(n))) {
            take(next, inside);
        }
        next.orders.remove(n);
        next.layers.remove(n);
    }

    int setMask(int n, boolean isOn) {
        noLayer(n);
        full();
        S next = s().copy();
        next.layers.get(n).mask = isOn ? new int[16][16] : null;
        for (int i = 0; isOn && i < 256; i++) {
            next.layers.get(n).mask[i / 16][i % 16] = 255;
        }
        return edit(next, n, allTiles());
    }

    // pictures

    private int paint(int n, boolean everywhere, Plan plan) {
        S next = s().copy();
        L old = s().layers.get(n);
        L l = next.layers.get(n);
        Set<Integer> tiles = everywhere ? allTiles() : new TreeSet<>();
        for (int y = 0; y < 16; y++) {
            for (int x = 0; x < 16; x++) {
                int[] fresh = plan.at(old, x, y);
                if (fresh == null || !in(x + l.ox, y + l.oy)) {
                    continue;
                }
                tiles.add((y + l.oy) / 4 * 4 + (x + l.ox) / 4);
                int t = s().selection[y + l.oy][x + l.ox];
                l.value[y][x] = (t * fresh[0] + (255 - t) * old.value[y][x] + 127) / 255;
                if (!l.locked) {
                    l.alpha[y][x] = (t * fresh[1] + (255 - t) * old.alpha[y][x] + 127) / 255;
                }
            }
        }
        return edit(next, n, tiles);
    }

    private int recorded(int n, Function<Integer, Integer> doing) {
        if (recording != null) {
            recording.add(doing);
        }
        return doing.apply(n);
    }

    int fill(int n, int place, int width, int height, int value, int alpha) {
        noLayer(n);
        out(place, 0, 255, width, 1, 16, height, 1, 16, value, 0, 255, alpha, 0, 255);
        notKind(n, 'p');
        full();
        int x0 = place % 16;
        int y0 = place / 16;
        return recorded(n, layer -> paint(layer, false, (old, x, y) ->
                x >= x0 && y >= y0 && x - x0 < width && y - y0 < height ? new int[] {value, alpha} : null));
    }

    int fillMask(int n, int place, int width, int height, int number) {
        noLayer(n);
        out(place, 0, 255, width, 1, 16, height, 1, 16, number, 0, 255);
        when(s().layers.get(n).mask == null, UnsupportedOperationException::new);
        full();
        S next = s().copy();
        Set<Integer> tiles = new TreeSet<>();
        for (int y = place / 16; y < Math.min(16, place / 16 + height); y++) {
            for (int x = place % 16; x < Math.min(16, place % 16 + width); x++) {
                next.layers.get(n).mask[y][x] = number;
                tiles.add(y / 4 * 4 + x / 4);
            }
        }
        return edit(next, n, tiles);
    }

    int stroke(int n, int from, int to, int size, int spacing, int value, int opacity) {
        noLayer(n);
        out(from, 0, 255, to, 0, 255, size, 1, 4, spacing, 1, 9, value, 0, 255, opacity, 0, 255);
        notKind(n, 'p');
        full();
        boolean[][] stamped = new boolean[20][20];
        int dx = to % 16 - from % 16;
        int dy = to / 16 - from / 16;
        int steps = Math.max(Math.abs(dx), Math.abs(dy));
        for (int k = 0; k <= steps; k += spacing) {
            int x0 = from % 16 + (steps == 0 ? 0 : Integer.signum(dx) * (k * Math.abs(dx) / steps));
            int y0 = from / 16 + (steps == 0 ? 0 : Integer.signum(dy) * (k * Math.abs(dy) / steps));
            for (int y = y0; y < y0 + size; y++) {
                for (int x = x0; x < x0 + size; x++) {
                    stamped[y][x] = true;
                }
            }
        }
        return recorded(n, layer -> paint(layer, false, (old, x, y) -> stamped[y][x]
                ? put(new int[] {old.value[y][x], old.alpha[y][x]}, new int[] {value, 255}, 'n', opacity) : null));
    }

    int blur(int n, int radius) {
        noLayer(n);
        out(radius, 1, 2);
        notKind(n, 'p');
        full();
        return recorded(n, layer -> paint(layer, true, (old, x, y) -> {
            int d = 0;
            int sum = 0;
            int number = 0;
            for (int v = Math.max(0, y - radius); v <= Math.min(15, y + radius); v++) {
                for (int u = Math.max(0, x - radius); u <= Math.min(15, x + radius); u++) {
                    d += old.alpha[v][u];
                    sum += old.value[v][u] * old.alpha[v][u];
                    number++;
                }
            }
            return new int[] {d == 0 ? 0 : (2 * sum + d) / (2 * d), (2 * d + number) / (2 * number)};
        }));
    }

    int paintFrom(int n, int state, int place, int size) {
        noLayer(n);
        when(state < 0 || state >= all.size(), IndexOutOfBoundsException::new);
        out(place, 0, 255, size, 1, 16);
        notKind(n, 'p');
        L source = all.get(state).layers.get(n);
        when(source == null, UnsupportedOperationException::new);
        full();
        return paint(n, false, (old, x, y) -> x >= place % 16 && x < place % 16 + size && y >= place / 16 && y < place / 16 + size
                ? new int[] {source.value[y][x], source.alpha[y][x]} : null);
    }

    // selection

    private int selection(Function<Integer, Integer> numberAt) {
        S next = s().copy();
        int count = 0;
        for (int i = 0; i < 256; i++) {
            next.selection[i / 16][i % 16] = numberAt.apply(i);
            count += next.selection[i / 16][i % 16] > 0 ? 1 : 0;
        }
        edit(next, -7, List.of());
        return count;
    }

    private List<Integer> near(int place, int by) {
        List<Integer> numbers = new ArrayList<>();
        for (int i = 0; i < 256; i++) {
            if (Math.abs(i / 16 - place / 16) <= by && Math.abs(i % 16 - place % 16) <= by) {
                numbers.add(s().selection[i / 16][i % 16]);
            }
        }
        return numbers;
    }

    int select(int place, int width, int height, char way) {
        out(place, 0, 255, width, 1, 16, height, 1, 16);
        when("rasi".indexOf(way) < 0, IllegalArgumentException::new);
        full();
        int[][] old = s().selection;
        return selection(i -> {
            int x = i % 16 - place % 16;
            int y = i / 16 - place / 16;
            boolean isIn = x >= 0 && y >= 0 && x < width && y < height;
            int number = old[i / 16][i % 16];
            return switch (way) {
                case 'r' -> isIn ? 255 : 0;
                case 'a' -> isIn ? 255 : number;
                case 's' -> isIn ? 0 : number;
                default -> isIn ? number : 0;
            };
        });
    }

    int selectLike(int n, int place, int tolerance, boolean isHanging) {
        noLayer(n);
        out(place, 0, 255, tolerance, 0, 255);
        notKind(n, 'p');
        full();
        L l = s().layers.get(n);
        Set<Integer> like = new TreeSet<>();
        int x0 = place % 16 - l.ox;
        int y0 = place / 16 - l.oy;
        for (int i = 0; i < 256; i++) {
            int x = i % 16 - l.ox;
            int y = i / 16 - l.oy;
            if (in(x, y) && in(x0, y0) && l.alpha[y][x] > 0 && l.alpha[y0][x0] > 0
                    && Math.abs(l.value[y][x] - l.value[y0][x0]) <= tolerance) {
                like.add(i);
            }
        }
        Set<Integer> chosen = like;
        if (isHanging) {
            chosen = new TreeSet<>(like);
            chosen.retainAll(Set.of(place));
            for (int round = 0; round < 256; round++) {
                for (int i : like) {
                    if (i % 16 > 0 && chosen.contains(i - 1) || i % 16 < 15 && chosen.contains(i + 1)
                            || chosen.contains(i - 16) || chosen.contains(i + 16)) {
                        chosen.add(i);
                    }
                }
            }
        }
        Set<Integer> last = chosen;
        return selection(i -> last.contains(i) ? 255 : 0);
    }

    int grow(int by) {
        when(by < -3 || by > 3 || by == 0, IllegalArgumentException::new);
        full();
        return selection(by > 0 ? i -> Collections.max(near(i, by)) : i -> Collections.min(near(i, -by)));
    }

    int feather() {
        full();
        return selection(i -> {
            List<Integer> numbers = near(i, 1);
            return (numbers.stream().mapToInt(v -> v).sum() + numbers.size() / 2) / numbers.size();
        });
    }

    int invert() {
        full();
        int[][] old = s().selection;
        return selection(i -> 255 - old[i / 16][i % 16]);
    }

    int selected(int x, int y) {
        when(!in(x, y), IndexOutOfBoundsException::new);
        return s().selection[y][x];
    }

    // states and records

    private List<Integer> ahead(int state) {
        List<Integer> line = new ArrayList<>();
        for (int at = state; at != -1; at = all.get(at).parent) {
            line.add(at);
        }
        return line;
    }

    private void goTo(int state) {
        Set<Integer> way = new TreeSet<>(ahead(present));
        Set<Integer> both = new TreeSet<>(way);
        way.addAll(ahead(state));
        both.retainAll(ahead(state));
        way.removeAll(both);
        way.forEach(edit -> kept.removeAll(all.get(edit).touched));
        present = state;
    }

    int undo() {
        when(present == 0, NoSuchElementException::new);
        goTo(s().parent);
        return present;
    }

    int redo(int branch) {
        List<Integer> behind = new ArrayList<>();
        for (int i = 0; i < all.size(); i++) {
            if (all.get(i).parent == present) {
                behind.add(i);
            }
        }
        when(branch < 0 || branch >= behind.size(), NoSuchElementException::new);
        goTo(behind.get(branch));
        return present;
    }

    int go(int state) {
        when(state < 0 || state >= all.size(), IndexOutOfBoundsException::new);
        int before = present;
        goTo(state);
        return before;
    }

    int state() {
        return present;
    }

    int states() {
        return all.size();
    }

    long sum() {
        List<Integer> numbers = new ArrayList<>();
        for (Map.Entry<Integer, L> e : s().layers.entrySet()) {
            numbers.add(e.getKey());
            for (int i = 0; i < 256 && e.getValue().kind == 'p'; i++) {
                numbers.add(e.getValue().value[i / 16][i % 16]);
                numbers.add(e.getValue().alpha[i / 16][i % 16]);
            }
        }
        for (int i = 0; i < 256; i++) {
            numbers.add(s().selection[i / 16][i % 16]);
        }
        long sum = 7;
        for (int number : numbers) {
            sum = sum * 31 + number;
        }
        return sum;
    }

    int record() {
        when(recording != null || records.size() == 3, IllegalStateException::new);
        recording = new ArrayList<>();
        return records.size();
    }

    int stop() {
        when(recording == null, IllegalStateException::new);
        records.add(recording);
        recording = null;
        return records.get(records.size() - 1).size();
    }

    int play(int record, int n) {
        when(record < 0 || record >= records.size(), IndexOutOfBoundsException::new);
        noLayer(n);
        notKind(n, 'p');
        when(recording != null, IllegalStateException::new);
        int made = 0;
        for (Function<Integer, Integer> edit : records.get(record)) {
            if (all.size() == 60) {
                break;
            }
            edit.apply(n);
            made++;
        }
        return made;
    }

    // looks

    private int[] put(int[] below, int[] above, char mode, int strength) {
        int b = below[0];
        int ab = below[1];
        int s = above[0];
        int a = p(above[1], strength);
        if (a == 0) {
            return below;
        }
        int m = switch (mode) {
            case 'n' -> s;
            case 'm' -> p(b, s);
            case 's' -> 255 - p(255 - b, 255 - s);
            case 'a' -> b + s > 255 ? 255 : b + s;
            case 'd' -> b > s ? b - s : s - b;
            case 'k' -> b < s ? b : s;
            default -> b > s ? b : s;
        };
        int d = 255 * a + (255 - a) * ab;
        int n = a * ((255 - ab) * s + ab * m) + (255 - a) * ab * b;
        return new int[] {(2 * n + d) / (2 * d), (2 * d + 255) / 510};
    }

    private int[] render(int group, int[] below, int x, int y) {
        int[] out = below;
        for (int n : s().order(group)) {
            L l = s().layers.get(n);
            if (!l.shown) {
                continue;
            }
            int b = out[0];
            int ab = out[1];
            int t = l.mask == null ? l.opacity : p(l.opacity, l.mask[y][x]);
            if (l.kind == 'p') {
                boolean isIn = in(x - l.ox, y - l.oy);
                int[] seen = isIn ? new int[] {l.value[y - l.oy][x - l.ox], l.alpha[y - l.oy][x - l.ox]} : new int[2];
                out = put(out, seen, l.mode, t);
            } else if (l.kind == 'g' && !l.passing) {
                out = put(out, render(n, new int[2], x, y), l.mode, t);
            } else if (l.kind == 'g') {
                int[] inside = render(n, out, x, y);
                int r = inside[0];
                int ar = inside[1];
                int d = t * ar + (255 - t) * ab;
                out = d == 0 ? new int[2]
                        : new int[] {(2 * (t * ar * r + (255 - t) * ab * b) + d) / (2 * d), (2 * d + 255) / 510};
            } else if (ab != 0) {
                int c = l.change == 'i' ? 255 - b : l.change == 't' ? (b >= l.first ? 255 : 0)
                        : b <= l.first ? 0 : b >= l.second ? 255 : (b - l.first) * 255 / (l.second - l.first);
                out = new int[] {(t * c + (255 - t) * b + 127) / 255, ab};
            }
        }
        return out;
    }

    private int[] pixel(int x, int y) {
        return render(-1, new int[2], x, y);
    }

    private void look(int x, int y) {
        when(!in(x, y), IndexOutOfBoundsException::new);
        int tile = 4 * (y / 4) + x / 4;
        if (!kept.remove(tile)) {
            renderings++;
        }
        kept.add(tile);
        trim();
    }

    private void trim() {
        while (kept.size() > limit) {
            kept.remove(kept.iterator().next());
        }
    }

    int value(int x, int y) {
        look(x, y);
        return pixel(x, y)[0];
    }

    int alpha(int x, int y) {
        look(x, y);
        return pixel(x, y)[1];
    }

    int valueAnew(int x, int y) {
        when(!in(x, y), IndexOutOfBoundsException::new);
        return pixel(x, y)[0];
    }

    int setKept(int tiles) {
        out(tiles, 1, 16);
        int before = limit;
        limit = tiles;
        trim();
        return before;
    }

    int rendered() {
        return renderings;
    }

    private TreeMap<Integer, Integer> counts() {
        TreeMap<Integer, Integer> counts = new TreeMap<>();
        for (int i = 0; i < 256; i++) {
            int[] pixel = pixel(i % 16, i / 16);
            counts.merge(p(pixel[0], pixel[1]), 1, Integer::sum);
        }
        return counts;
    }

    private static int meanOf(List<Integer> values, Map<Integer, Integer> counts, int first, int end) {
        int sum = 0;
        int number = 0;
        for (int value : values.subList(first, end)) {
            sum += value * counts.get(value);
            number += counts.get(value);
        }
        return sum / number;
    }

    /** The error, then the ends of the ranges, of the best way to part the values from the first one on. */
    private static List<Long> best(List<Integer> values, Map<Integer, Integer> counts, int first, int ranges, Map<Integer, List<Long>> known) {
        if (known.containsKey(first * 10 + ranges)) {
            return known.get(first * 10 + ranges);
        }
        List<Long> found = null;
        for (int end = ranges == 1 ? values.size() : first + 1; end <= values.size() - ranges + 1; end++) {
            long error = 0;
            int mean = meanOf(values, counts, first, end);
            for (int value : values.subList(first, end)) {
                error += (long) (value - mean) * (value - mean) * counts.get(value);
            }
            List<Long> way = new ArrayList<>(List.of(error, (long) end));
            if (ranges > 1) {
                List<Long> rest = best(values, counts, end, ranges - 1, known);
                way.set(0, error + rest.get(0));
                way.addAll(rest.subList(1, rest.size()));
            }
            if (found == null || way.get(0) < found.get(0)) {
                found = way;
            }
        }
        known.put(first * 10 + ranges, found);
        return found;
    }

    int palette(int count, int rank) {
        out(count, 1, 8, rank, 0, 7);
        Map<Integer, Integer> counts = counts();
        List<Integer> values = new ArrayList<>(counts.keySet());
        int ranges = Math.min(count, values.size());
        if (rank >= ranges) {
            return -1;
        }
        List<Long> way = best(values, counts, 0, ranges, new TreeMap<>());
        int first = rank == 0 ? 0 : way.get(rank).intValue();
        return meanOf(values, counts, first, way.get(rank + 1).intValue());
    }

    long paletteError(int count) {
        out(count, 1, 8);
        Map<Integer, Integer> counts = counts();
        List<Integer> values = new ArrayList<>(counts.keySet());
        return best(values, counts, 0, Math.min(count, values.size()), new TreeMap<>()).get(0);
    }

    float cover() {
        int sum = 0;
        for (int i = 0; i < 256; i++) {
            sum += pixel(i % 16, i / 16)[1];
        }
        return (float) sum / 65280f;
    }

    double mean() {
        long weighted = 0;
        long sum = 0;
        for (int i = 0; i < 256; i++) {
            int[] pixel = pixel(i % 16, i / 16);
            weighted += (long) pixel[0] * pixel[1];
            sum += pixel[1];
        }
        when(sum == 0, ArithmeticException::new);
        return (double) weighted / (double) sum;
    }

    boolean isConsistent() {
        return true;
    }
}
