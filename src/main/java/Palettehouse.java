import java.util.ArrayList;
import java.util.Arrays;
import java.util.NoSuchElementException;

/**
 * A picture workshop. The document tells, promise by promise, what each call does, answers and throws.
 *
 * A pixel is one int here, 256 times its value plus its alpha, so that rendering makes no objects.
 */
public final class Palettehouse {
    private static final int SIDE = 16;
    private static final int PIXELS = 256;
    private static final int TILE_SIDE = 4;
    private static final int TILES = 16;
    private static final int FULL = 255;
    private static final int MOST_LAYERS = 8;
    private static final int MOST_NUMBERS = 30;
    private static final int MOST_STATES = 60;
    private static final int MOST_RECORDS = 3;
    private static final int MOST_RANGES = 8;
    private static final int MOST_OFFSET = 15;
    private static final int MOST_SIZE = 4;
    private static final int MOST_SPACING = 9;
    private static final int MOST_RADIUS = 2;
    private static final int MOST_GROWTH = 3;

    /** The group of a layer that is in none. */
    private static final int OUTSIDE = -1;
    /** A layer, its group, and the group of that one. */
    private static final int DEEPEST = 3;

    private static final int NO_TILE = 0;
    private static final int ALL_TILES = 0xFFFF;

    private static final int NOTHING = 0;
    /** Stands where an edit has no new pixel. */
    private static final int NO_PIXEL = -1;
    /** Stands where a pixel of a picture is seen outside of the whole picture. */
    private static final int NO_PLACE = -1;

    private static final String LAYER_KINDS = "pga";
    private static final String MODES = "nmsadkl";
    private static final String CHANGE_KINDS = "itl";
    private static final String WAYS = "rasi";

    private static final int[] BESIDE_X = {1, 0, -1, 0};
    private static final int[] BESIDE_Y = {0, 1, 0, -1};

    private final ArrayList<State> states = new ArrayList<>();
    private final ArrayList<Recording> recordings = new ArrayList<>();
    private final Tiles tiles = new Tiles();
    private final Parting parting = new Parting();
    /** The new pixels of the edit that is being made: one row for all edits. */
    private final int[] fresh = new int[PIXELS];
    private State now;
    /** The recording that goes on, or null. */
    private Recording running;
    private int numbersGiven;

    public Palettehouse() {
        int[] selection = new int[PIXELS];
        Arrays.fill(selection, FULL);
        now = new State(0, null, new Layers(), selection, NO_TILE);
        states.add(now);
    }

    // ---- layers

    public int addLayer(char kind, int group) throws IndexOutOfBoundsException, IllegalArgumentException, UnsupportedOperationException, IllegalStateException {
        Layer around = group == OUTSIDE ? null : needLayer(group);
        needOneOf(LAYER_KINDS, kind);
        if (around != null) {
            needKind(around, 'g');
            if (kind == 'g' && around.group != OUTSIDE) {
                throw new UnsupportedOperationException("the group would be too deep");
            }
        }
        if (now.layers.count() >= MOST_LAYERS || numbersGiven >= MOST_NUMBERS) {
            throw new IllegalStateException("no room for a layer");
        }
        needRoom();
        int number = numbersGiven;
        numbersGiven++;
        putLayer(new Layer(number, kind, group, new int[kind == 'p' ? PIXELS : 0]), ALL_TILES);
        return number;
    }

    public int setLook(int layer, int opacity, char mode, boolean isShown) throws IndexOutOfBoundsException, IllegalArgumentException, IllegalStateException {
        Layer changed = needLayer(layer).copy();
        needRange(opacity, 0, FULL);
        needOneOf(MODES, mode);
        needRoom();
        changed.opacity = opacity;
        changed.mode = mode;
        changed.isShown = isShown;
        return putLayer(changed, ALL_TILES);
    }

    public int setPassing(int layer, boolean isPassing) throws IndexOutOfBoundsException, UnsupportedOperationException, IllegalStateException {
        Layer changed = needLayer(layer).copy();
        needKind(changed, 'g');
        needRoom();
        changed.isPassing = isPassing;
        return putLayer(changed, ALL_TILES);
    }

    public int setChange(int layer, char kind, int first, int second) throws IndexOutOfBoundsException, IllegalArgumentException, UnsupportedOperationException, IllegalStateException {
        Layer changed = needLayer(layer).copy();
        needOneOf(CHANGE_KINDS, kind);
        if (kind != 'i') {
            needRange(first, 0, FULL);
        }
        if (kind == 'l') {
            needRange(second, first + 1, FULL);
        }
        needKind(changed, 'a');
        needRoom();
        changed.change = kind;
        changed.first = first;
        changed.second = second;
        return putLayer(changed, ALL_TILES);
    }

    public int setOffset(int layer, int x, int y) throws IndexOutOfBoundsException, IllegalArgumentException, UnsupportedOperationException, IllegalStateException {
        Layer changed = needLayer(layer).copy();
        needRange(x, -MOST_OFFSET, MOST_OFFSET);
        needRange(y, -MOST_OFFSET, MOST_OFFSET);
        needKind(changed, 'p');
        needRoom();
        changed.offsetX = x;
        changed.offsetY = y;
        return putLayer(changed, ALL_TILES);
    }

    public int lock(int layer, boolean isLocked) throws IndexOutOfBoundsException, UnsupportedOperationException, IllegalStateException {
        Layer changed = needLayer(layer).copy();
        needKind(changed, 'p');
        needRoom();
        changed.isLocked = isLocked;
        return putLayer(changed, NO_TILE);
    }

    public int move(int layer, int place) throws IndexOutOfBoundsException, IllegalArgumentException, IllegalStateException {
        Layer moved = needLayer(layer);
        needRange(place, 0, now.layers.countIn(moved.group) - 1);
        needRoom();
        int before = now.layers.placeOf(moved);
        addLayersState(now.layers.withMoved(moved, place), layer, ALL_TILES);
        return before;
    }

    public int remove(int layer) throws IndexOutOfBoundsException, IllegalStateException {
        needLayer(layer);
        needRoom();
        addLayersState(now.layers.without(layer), layer, ALL_TILES);
        return now.layers.count();
    }

    public int setMask(int layer, boolean isOn) throws IndexOutOfBoundsException, IllegalStateException {
        Layer changed = needLayer(layer).copy();
        needRoom();
        changed.mask = null;
        if (isOn) {
            int[] mask = new int[PIXELS];
            Arrays.fill(mask, FULL);
            changed.mask = mask;
        }
        return putLayer(changed, ALL_TILES);
    }

    // ---- edits of pictures

    public int fill(int layer, int place, int width, int height, int value, int alpha) throws IndexOutOfBoundsException, IllegalArgumentException, UnsupportedOperationException, IllegalStateException {
        Layer painted = needLayer(layer);
        needBox(place, width, height);
        needRange(value, 0, FULL);
        needRange(alpha, 0, FULL);
        needKind(painted, 'p');
        needRoom();
        return editAndRecord(painted, new Fill(place, width, height, pixel(value, alpha)));
    }

    public int fillMask(int layer, int place, int width, int height, int number) throws IndexOutOfBoundsException, IllegalArgumentException, UnsupportedOperationException, IllegalStateException {
        Layer changed = needLayer(layer).copy();
        needBox(place, width, height);
        needRange(number, 0, FULL);
        if (changed.mask == null) {
            throw new UnsupportedOperationException("the layer has no mask");
        }
        needRoom();
        int[] mask = changed.mask.clone();
        int touched = NO_TILE;
        for (int at = 0; at < mask.length; at++) {
            if (isInBox(at, place, width, height)) {
                mask[at] = number;
                touched |= 1 << tileOf(at);
            }
        }
        changed.mask = mask;
        return putLayer(changed, touched);
    }

    public int stroke(int layer, int from, int to, int size, int spacing, int value, int opacity) throws IndexOutOfBoundsException, IllegalArgumentException, UnsupportedOperationException, IllegalStateException {
        Layer painted = needLayer(layer);
        needRange(from, 0, PIXELS - 1);
        needRange(to, 0, PIXELS - 1);
        needRange(size, 1, MOST_SIZE);
        needRange(spacing, 1, MOST_SPACING);
        needRange(value, 0, FULL);
        needRange(opacity, 0, FULL);
        needKind(painted, 'p');
        needRoom();
        return editAndRecord(painted, new Stroke(from, to, size, spacing, value, opacity));
    }

    public int blur(int layer, int radius) throws IndexOutOfBoundsException, IllegalArgumentException, UnsupportedOperationException, IllegalStateException {
        Layer painted = needLayer(layer);
        needRange(radius, 1, MOST_RADIUS);
        needKind(painted, 'p');
        needRoom();
        return editAndRecord(painted, new Blur(radius));
    }

    public int paintFrom(int layer, int state, int place, int size) throws IndexOutOfBoundsException, IllegalArgumentException, UnsupportedOperationException, IllegalStateException {
        Layer painted = needLayer(layer);
        State other = needState(state);
        needBox(place, size, size);
        needKind(painted, 'p');
        Layer source = other.layers.find(layer);
        if (source == null) {
            throw new UnsupportedOperationException("the layer is not there in that state");
        }
        needRoom();
        return editPicture(painted, new Repaint(source, place, size));
    }

    private int editAndRecord(Layer painted, PictureEdit edit) {
        if (running != null) {
            running.edits.add(edit);
        }
        return editPicture(painted, edit);
    }

    private int editPicture(Layer painted, PictureEdit edit) {
        Arrays.fill(fresh, NO_PIXEL);
        edit.plan(painted.pixels, fresh);
        Layer changed = painted.copy();
        changed.pixels = painted.edited(fresh, now.selection);
        return putLayer(changed, edit.isEverywhere() ? ALL_TILES : painted.tilesOf(fresh));
    }

    // ---- selection

    public int select(int place, int width, int height, char way) throws IllegalArgumentException, IllegalStateException {
        needBox(place, width, height);
        needOneOf(WAYS, way);
        needRoom();
        int[] numbers = now.selection.clone();
        for (int at = 0; at < numbers.length; at++) {
            if (!isInBox(at, place, width, height)) {
                numbers[at] = way == 'r' || way == 'i' ? 0 : numbers[at];
            } else if (way == 's') {
                numbers[at] = 0;
            } else if (way != 'i') {
                numbers[at] = FULL;
            }
        }
        return addSelection(numbers);
    }

    public int selectLike(int layer, int place, int tolerance, boolean isHanging) throws IndexOutOfBoundsException, IllegalArgumentException, UnsupportedOperationException, IllegalStateException {
        Layer painted = needLayer(layer);
        needRange(place, 0, PIXELS - 1);
        needRange(tolerance, 0, FULL);
        needKind(painted, 'p');
        needRoom();
        int[] numbers = likeSeenAt(painted, place, tolerance);
        return addSelection(isHanging ? hangingWith(numbers, place) : numbers);
    }

    public int grow(int by) throws IllegalArgumentException, IllegalStateException {
        needRange(by, -MOST_GROWTH, MOST_GROWTH);
        if (by == 0) {
            throw new IllegalArgumentException("neither growing nor shrinking");
        }
        needRoom();
        int[] numbers = new int[PIXELS];
        for (int at = 0; at < numbers.length; at++) {
            numbers[at] = extremeAround(now.selection, at, by);
        }
        return addSelection(numbers);
    }

    public int feather() throws IllegalStateException {
        needRoom();
        int[] numbers = new int[PIXELS];
        for (int at = 0; at < numbers.length; at++) {
            numbers[at] = meanAround(now.selection, at);
        }
        return addSelection(numbers);
    }

    public int invert() throws IllegalStateException {
        needRoom();
        int[] numbers = now.selection.clone();
        for (int at = 0; at < numbers.length; at++) {
            numbers[at] = FULL - numbers[at];
        }
        return addSelection(numbers);
    }

    public int selected(int x, int y) throws IndexOutOfBoundsException {
        return now.selection[needPixel(x, y)];
    }

    private int addSelection(int[] numbers) {
        addState(now.layers, numbers, NO_TILE);
        int count = 0;
        for (int number : numbers) {
            count += number > 0 ? 1 : 0;
        }
        return count;
    }

    private static int[] likeSeenAt(Layer painted, int place, int tolerance) {
        int[] numbers = new int[PIXELS];
        int wanted = painted.seenAt(place);
        if (alphaOf(wanted) == 0) {
            return numbers;
        }
        for (int at = 0; at < numbers.length; at++) {
            int seen = painted.seenAt(at);
            if (alphaOf(seen) > 0 && Math.abs(valueOf(seen) - valueOf(wanted)) <= tolerance) {
                numbers[at] = FULL;
            }
        }
        return numbers;
    }

    /** Leaves those of the numbers that hang together with the place; beside means: not over a corner. */
    private static int[] hangingWith(int[] numbers, int place) {
        int[] hanging = new int[PIXELS];
        int[] found = new int[PIXELS];
        int count = 0;
        if (numbers[place] > 0) {
            hanging[place] = FULL;
            found[count] = place;
            count++;
        }
        for (int next = 0; next < count && next < PIXELS; next++) {
            for (int way = 0; way < BESIDE_X.length; way++) {
                int at = placeAt(found[next] % SIDE + BESIDE_X[way], found[next] / SIDE + BESIDE_Y[way]);
                if (at != NO_PLACE && numbers[at] > 0 && hanging[at] == 0 && count < PIXELS) {
                    hanging[at] = FULL;
                    found[count] = at;
                    count++;
                }
            }
        }
        return hanging;
    }

    private static int extremeAround(int[] numbers, int place, int by) {
        int reach = Math.abs(by);
        int extreme = numbers[place];
        for (int i = 0; i < areaWithin(reach); i++) {
            int at = placeNear(place, reach, i);
            if (at != NO_PLACE) {
                extreme = by > 0 ? Math.max(extreme, numbers[at]) : Math.min(extreme, numbers[at]);
            }
        }
        return extreme;
    }

    private static int meanAround(int[] numbers, int place) {
        int sum = 0;
        int count = 0;
        for (int i = 0; i < areaWithin(1); i++) {
            int at = placeNear(place, 1, i);
            if (at != NO_PLACE) {
                sum += numbers[at];
                count++;
            }
        }
        return count == 0 ? 0 : (sum + count / 2) / count;
    }

    // ---- states and records

    public int undo() throws NoSuchElementException {
        if (now.before == null) {
            throw new NoSuchElementException("there is no state ahead of the first one");
        }
        goTo(now.before);
        return now.number;
    }

    public int redo(int branch) throws NoSuchElementException {
        State next = stateBehind(branch);
        if (next == null) {
            throw new NoSuchElementException("there is no such state behind the present one");
        }
        goTo(next);
        return now.number;
    }

    public int go(int state) throws IndexOutOfBoundsException {
        State there = needState(state);
        int before = now.number;
        goTo(there);
        return before;
    }

    public int state() {
        return now.number;
    }

    public int states() {
        return states.size();
    }

    public long sum() {
        long sum = 7;
        for (int number = 0; number < numbersGiven; number++) {
            Layer layer = now.layers.find(number);
            if (layer != null) {
                sum = layer.addedTo(sum);
            }
        }
        for (int number : now.selection) {
            sum = 31 * sum + number;
        }
        return sum;
    }

    public int record() throws IllegalStateException {
        needNoRecording();
        if (recordings.size() >= MOST_RECORDS) {
            throw new IllegalStateException("no room for a record");
        }
        running = new Recording();
        return recordings.size();
    }

    public int stop() throws IllegalStateException {
        if (running == null) {
            throw new IllegalStateException("nothing is being recorded");
        }
        int count = running.edits.size();
        recordings.add(running);
        running = null;
        return count;
    }

    public int play(int record, int layer) throws IndexOutOfBoundsException, UnsupportedOperationException, IllegalStateException {
        if (record < 0 || record >= recordings.size()) {
            throw new IndexOutOfBoundsException("there is no such record");
        }
        needKind(needLayer(layer), 'p');
        needNoRecording();
        ArrayList<PictureEdit> edits = recordings.get(record).edits;
        int made = 0;
        while (made < edits.size() && states.size() < MOST_STATES) {
            editPicture(needLayer(layer), edits.get(made));
            made++;
        }
        return made;
    }

    private int addState(Layers layers, int[] selection, int touched) {
        now = new State(states.size(), now, layers, selection, touched);
        states.add(now);
        tiles.drop(touched);
        return now.number;
    }

    private int addLayersState(Layers layers, int layer, int touched) {
        boolean isUnseen = now.layers.isHidden(layer) && layers.isHidden(layer);
        return addState(layers, now.selection, isUnseen ? NO_TILE : touched);
    }

    private int putLayer(Layer layer, int touched) {
        return addLayersState(now.layers.with(layer), layer.number, touched);
    }

    private void goTo(State there) {
        tiles.drop(touchedOnWay(now, there));
        now = there;
    }

    /** Steps back from the later one of both until they meet: a state is later than all ahead of it. */
    private static int touchedOnWay(State from, State to) {
        int touched = NO_TILE;
        State one = from;
        State other = to;
        for (int steps = 0; steps < 2 * MOST_STATES && one != null && other != null; steps++) {
            if (one.number > other.number) {
                touched |= one.touched;
                one = one.before;
            } else if (other.number > one.number) {
                touched |= other.touched;
                other = other.before;
            } else {
                break;
            }
        }
        return touched;
    }

    private State stateBehind(int branch) {
        int count = 0;
        for (int number = now.number + 1; number < states.size(); number++) {
            State later = states.get(number);
            if (later.before != null && later.before.number == now.number) {
                if (count == branch) {
                    return later;
                }
                count++;
            }
        }
        return null;
    }

    // ---- looks

    public int value(int x, int y) throws IndexOutOfBoundsException {
        return valueOf(tiles.look(now.layers, needPixel(x, y)));
    }

    public int alpha(int x, int y) throws IndexOutOfBoundsException {
        return alphaOf(tiles.look(now.layers, needPixel(x, y)));
    }

    public int valueAnew(int x, int y) throws IndexOutOfBoundsException {
        return valueOf(now.layers.pixelAt(needPixel(x, y)));
    }

    public int setKept(int tiles) throws IllegalArgumentException {
        needRange(tiles, 1, TILES);
        int before = this.tiles.limit;
        this.tiles.limit = tiles;
        this.tiles.dropDownTo(tiles);
        return before;
    }

    public int rendered() {
        return tiles.renderings;
    }

    public int palette(int values, int rank) throws IllegalArgumentException {
        needRange(values, 1, MOST_RANGES);
        needRange(rank, 0, MOST_RANGES - 1);
        parting.solve(now);
        return parting.rangeValue(values, rank);
    }

    public long paletteError(int values) throws IllegalArgumentException {
        needRange(values, 1, MOST_RANGES);
        parting.solve(now);
        return parting.leastError(values);
    }

    public float cover() {
        int alphas = 0;
        for (int place = 0; place < PIXELS; place++) {
            alphas += alphaOf(now.layers.pixelAt(place));
        }
        return (float) alphas / (float) (PIXELS * FULL);
    }

    public double mean() throws ArithmeticException {
        int alphas = 0;
        int weighted = 0;
        for (int place = 0; place < PIXELS; place++) {
            int pixel = now.layers.pixelAt(place);
            alphas += alphaOf(pixel);
            weighted += valueOf(pixel) * alphaOf(pixel);
        }
        if (alphas == 0) {
            throw new ArithmeticException("all alphas are 0");
        }
        return (double) weighted / (double) alphas;
    }

    public boolean isConsistent() {
        return tiles.agreeWith(now.layers);
    }

    // ---- what calls need, in place of which they throw

    private Layer needLayer(int number) {
        Layer layer = now.layers.find(number);
        if (layer == null) {
            throw new IndexOutOfBoundsException("there is no such layer");
        }
        return layer;
    }

    private State needState(int number) {
        if (number < 0 || number >= states.size()) {
            throw new IndexOutOfBoundsException("there is no such state");
        }
        return states.get(number);
    }

    /** Returns the place of the pixel. */
    private static int needPixel(int x, int y) {
        int place = placeAt(x, y);
        if (place == NO_PLACE) {
            throw new IndexOutOfBoundsException("there is no such pixel");
        }
        return place;
    }

    private static void needRange(int number, int least, int most) {
        if (number < least || number > most) {
            throw new IllegalArgumentException("a number is out of range");
        }
    }

    private static void needBox(int place, int width, int height) {
        needRange(place, 0, PIXELS - 1);
        needRange(width, 1, SIDE);
        needRange(height, 1, SIDE);
    }

    private static void needOneOf(String signs, char sign) {
        if (signs.indexOf(sign) < 0) {
            throw new IllegalArgumentException("there is no such sign");
        }
    }

    private static void needKind(Layer layer, char kind) {
        if (layer.kind != kind) {
            throw new UnsupportedOperationException("the layer is of another kind");
        }
    }

    private void needRoom() {
        if (states.size() >= MOST_STATES) {
            throw new IllegalStateException("no room for a state");
        }
    }

    private void needNoRecording() {
        if (running != null) {
            throw new IllegalStateException("a recording goes on");
        }
    }

    // ---- places

    private static int placeAt(int x, int y) {
        boolean isInside = x >= 0 && x < SIDE && y >= 0 && y < SIDE;
        return isInside ? SIDE * y + x : NO_PLACE;
    }

    private static int tileOf(int place) {
        return place / SIDE / TILE_SIDE * TILE_SIDE + place % SIDE / TILE_SIDE;
    }

    private static int placeInTile(int tile, int index) {
        int x = tile % TILE_SIDE * TILE_SIDE + index % TILE_SIDE;
        int y = tile / TILE_SIDE * TILE_SIDE + index / TILE_SIDE;
        return SIDE * y + x;
    }

    private static boolean isInBox(int at, int place, int width, int height) {
        int x = at % SIDE - place % SIDE;
        int y = at / SIDE - place / SIDE;
        return x >= 0 && x < width && y >= 0 && y < height;
    }

    /** How many places there are whose x and y differ by the reach at most, also those outside of the picture. */
    private static int areaWithin(int reach) {
        return (2 * reach + 1) * (2 * reach + 1);
    }

    private static int placeNear(int place, int reach, int index) {
        int side = 2 * reach + 1;
        return placeAt(place % SIDE - reach + index % side, place / SIDE - reach + index / side);
    }

    // ---- pixels

    private static int pixel(int value, int alpha) {
        return PIXELS * value + alpha;
    }

    private static int valueOf(int pixel) {
        return pixel / PIXELS;
    }

    private static int alphaOf(int pixel) {
        return pixel % PIXELS;
    }

    private static int product(int one, int other) {
        return (one * other + 127) / FULL;
    }

    private static int blend(int strength, int above, int below) {
        return (strength * above + (FULL - strength) * below + 127) / FULL;
    }

    /** Rounds to the nearest number, or to 0 where there is nothing to divide by, as the document has it. */
    private static int rounded(int sum, int divisor) {
        return divisor == 0 ? 0 : (2 * sum + divisor) / (2 * divisor);
    }

    private static int madeBy(char mode, int below, int above) {
        switch (mode) {
            case 'm':
                return product(below, above);
            case 's':
                return FULL - product(FULL - below, FULL - above);
            case 'a':
                return Math.min(below + above, FULL);
            case 'd':
                return Math.abs(below - above);
            case 'k':
                return Math.min(below, above);
            case 'l':
                return Math.max(below, above);
            default:
                return above;
        }
    }

    private static int paintedOn(int below, int above, char mode, int strength) {
        int a = product(alphaOf(above), strength);
        if (a == 0) {
            return below;
        }
        int b = valueOf(below);
        int ab = alphaOf(below);
        int s = valueOf(above);
        int d = FULL * a + (FULL - a) * ab;
        int n = a * ((FULL - ab) * s + ab * madeBy(mode, b, s)) + (FULL - a) * ab * b;
        return pixel(rounded(n, d), rounded(d, FULL));
    }

    private static int passedOn(int below, int inside, int strength) {
        int weightInside = strength * alphaOf(inside);
        int weightBelow = (FULL - strength) * alphaOf(below);
        int d = weightInside + weightBelow;
        return pixel(rounded(weightInside * valueOf(inside) + weightBelow * valueOf(below), d), rounded(d, FULL));
    }

    /**
     * A layer. Once it stands in a state it is never written again, nor are its rows:
     * states share them, and an edit changes a copy.
     */
    private static final class Layer {
        final int number;
        final char kind;
        final int group;
        int opacity = FULL;
        char mode = 'n';
        boolean isShown = true;
        boolean isPassing;
        boolean isLocked;
        int offsetX;
        int offsetY;
        char change = 'i';
        int first;
        int second;
        /** The picture by rising places; empty for a layer without one. */
        int[] pixels;
        /** The numbers of the mask by rising places, or null. */
        int[] mask;

        Layer(int number, char kind, int group, int[] pixels) {
            this.number = number;
            this.kind = kind;
            this.group = group;
            this.pixels = pixels;
        }

        Layer copy() {
            Layer copy = new Layer(number, kind, group, pixels);
            copy.opacity = opacity;
            copy.mode = mode;
            copy.isShown = isShown;
            copy.isPassing = isPassing;
            copy.isLocked = isLocked;
            copy.offsetX = offsetX;
            copy.offsetY = offsetY;
            copy.change = change;
            copy.first = first;
            copy.second = second;
            copy.mask = mask;
            return copy;
        }

        int strengthAt(int place) {
            return mask == null ? opacity : product(opacity, mask[place]);
        }

        /** The pixel of the picture that is seen at a place of the whole picture. */
        int seenAt(int place) {
            int at = placeAt(place % SIDE - offsetX, place / SIDE - offsetY);
            return at == NO_PLACE || at >= pixels.length ? NOTHING : pixels[at];
        }

        /** The place of the whole picture at which a pixel of the picture is seen. */
        int placeSeen(int at) {
            return placeAt(at % SIDE + offsetX, at / SIDE + offsetY);
        }

        int[] edited(int[] fresh, int[] selection) {
            int[] edited = pixels.clone();
            for (int at = 0; at < edited.length; at++) {
                int place = placeSeen(at);
                if (fresh[at] != NO_PIXEL && place != NO_PLACE) {
                    int strength = selection[place];
                    int old = edited[at];
                    int alpha = isLocked ? alphaOf(old) : blend(strength, alphaOf(fresh[at]), alphaOf(old));
                    edited[at] = pixel(blend(strength, valueOf(fresh[at]), valueOf(old)), alpha);
                }
            }
            return edited;
        }

        int tilesOf(int[] fresh) {
            int touched = NO_TILE;
            for (int at = 0; at < fresh.length; at++) {
                int place = placeSeen(at);
                if (fresh[at] != NO_PIXEL && place != NO_PLACE) {
                    touched |= 1 << tileOf(place);
                }
            }
            return touched;
        }

        int changedFrom(int value) {
            if (change == 'i') {
                return FULL - value;
            }
            if (change == 't') {
                return value >= first ? FULL : 0;
            }
            if (value <= first || second <= first) {
                return 0;
            }
            return value >= second ? FULL : (value - first) * FULL / (second - first);
        }

        int changeOf(int below, int strength) {
            if (alphaOf(below) == 0) {
                return below;
            }
            int value = valueOf(below);
            return pixel(blend(strength, changedFrom(value), value), alphaOf(below));
        }

        long addedTo(long sum) {
            long added = 31 * sum + number;
            for (int pixel : pixels) {
                added = 31 * added + valueOf(pixel);
                added = 31 * added + alphaOf(pixel);
            }
            return added;
        }
    }

    /** The layers of a state. Those of one group stand in their order, whatever stands between them. */
    private static final class Layers {
        private final ArrayList<Layer> list = new ArrayList<>();

        int count() {
            return list.size();
        }

        Layer find(int number) {
            for (int i = 0; i < list.size(); i++) {
                if (list.get(i).number == number) {
                    return list.get(i);
                }
            }
            return null;
        }

        int countIn(int group) {
            int count = 0;
            for (int i = 0; i < list.size(); i++) {
                count += list.get(i).group == group ? 1 : 0;
            }
            return count;
        }

        int placeOf(Layer layer) {
            int place = 0;
            for (int i = 0; i < list.size() && list.get(i).number != layer.number; i++) {
                place += list.get(i).group == layer.group ? 1 : 0;
            }
            return place;
        }

        /** Puts a layer in place of the one with its number, or above all. */
        Layers with(Layer layer) {
            Layers made = new Layers();
            boolean isPut = false;
            for (int i = 0; i < list.size(); i++) {
                boolean isIts = list.get(i).number == layer.number;
                made.list.add(isIts ? layer : list.get(i));
                isPut = isPut || isIts;
            }
            if (!isPut) {
                made.list.add(layer);
            }
            return made;
        }

        Layers withMoved(Layer moved, int place) {
            Layers made = new Layers();
            int passed = 0;
            for (int i = 0; i < list.size(); i++) {
                Layer other = list.get(i);
                if (other.number == moved.number) {
                    continue;
                }
                if (other.group == moved.group) {
                    if (passed == place) {
                        made.list.add(moved);
                    }
                    passed++;
                }
                made.list.add(other);
            }
            if (passed <= place) {
                made.list.add(moved);
            }
            return made;
        }

        Layers without(int number) {
            Layers made = new Layers();
            for (int i = 0; i < list.size(); i++) {
                if (!isWithin(list.get(i), number)) {
                    made.list.add(list.get(i));
                }
            }
            return made;
        }

        private boolean isWithin(Layer layer, int number) {
            Layer around = layer;
            for (int depth = 0; depth < DEEPEST && around != null; depth++) {
                if (around.number == number) {
                    return true;
                }
                around = find(around.group);
            }
            return false;
        }

        /** Also true of a layer that is not there: it is shown neither ahead of its adding nor behind its removal. */
        boolean isHidden(int number) {
            int at = number;
            for (int depth = 0; depth < DEEPEST && at != OUTSIDE; depth++) {
                Layer layer = find(at);
                if (layer == null || !layer.isShown) {
                    return true;
                }
                at = layer.group;
            }
            return false;
        }

        /** The pixel of the whole picture, rendered from nothing. */
        int pixelAt(int place) {
            return renderedOn(NOTHING, OUTSIDE, place, 0);
        }

        private int renderedOn(int below, int group, int place, int depth) {
            int pixel = below;
            for (int i = 0; i < list.size() && depth < DEEPEST; i++) {
                Layer layer = list.get(i);
                if (layer.group == group && layer.isShown) {
                    pixel = renderedBy(layer, pixel, place, depth);
                }
            }
            return pixel;
        }

        private int renderedBy(Layer layer, int below, int place, int depth) {
            int strength = layer.strengthAt(place);
            if (layer.kind == 'p') {
                return paintedOn(below, layer.seenAt(place), layer.mode, strength);
            }
            if (layer.kind == 'a') {
                return layer.changeOf(below, strength);
            }
            if (layer.isPassing) {
                return passedOn(below, renderedOn(below, layer.number, place, depth + 1), strength);
            }
            return paintedOn(below, renderedOn(NOTHING, layer.number, place, depth + 1), layer.mode, strength);
        }
    }

    /** A state: what it has, the state ahead of it, and the tiles that the edit between both touched. */
    private static final class State {
        final int number;
        final State before;
        final Layers layers;
        final int[] selection;
        final int touched;

        State(int number, State before, Layers layers, int[] selection, int touched) {
            this.number = number;
            this.before = before;
            this.layers = layers;
            this.selection = selection;
            this.touched = touched;
        }
    }

    /** Edits that are kept to be played again. */
    private static final class Recording {
        final ArrayList<PictureEdit> edits = new ArrayList<>();
    }

    /** An edit of a picture, without its layer, so that it can be made again with another one. */
    private abstract static class PictureEdit {
        /** Puts the new pixels in; where the edit has none, the row stays as it was. */
        abstract void plan(int[] old, int[] fresh);

        /** Whether all tiles are touched, and not just those in which new pixels are seen. */
        boolean isEverywhere() {
            return false;
        }
    }

    private static final class Fill extends PictureEdit {
        private final int place;
        private final int width;
        private final int height;
        private final int pixel;

        Fill(int place, int width, int height, int pixel) {
            this.place = place;
            this.width = width;
            this.height = height;
            this.pixel = pixel;
        }

        void plan(int[] old, int[] fresh) {
            for (int at = 0; at < fresh.length; at++) {
                if (isInBox(at, place, width, height)) {
                    fresh[at] = pixel;
                }
            }
        }
    }

    private static final class Stroke extends PictureEdit {
        private final int from;
        private final int to;
        private final int size;
        private final int spacing;
        private final int pixel;
        private final int opacity;

        Stroke(int from, int to, int size, int spacing, int value, int opacity) {
            this.from = from;
            this.to = to;
            this.size = size;
            this.spacing = spacing;
            this.pixel = pixel(value, FULL);
            this.opacity = opacity;
        }

        void plan(int[] old, int[] fresh) {
            int wayX = to % SIDE - from % SIDE;
            int wayY = to / SIDE - from / SIDE;
            int steps = Math.max(Math.abs(wayX), Math.abs(wayY));
            // A stroke without steps has no way either: any divisor but 0 keeps it at its place.
            int divisor = Math.max(steps, 1);
            for (int k = 0; k <= steps; k++) {
                if (spacing > 0 && k % spacing == 0) {
                    stamp(from % SIDE + k * wayX / divisor, from / SIDE + k * wayY / divisor, old, fresh);
                }
            }
        }

        private void stamp(int left, int top, int[] old, int[] fresh) {
            for (int i = 0; i < size * size; i++) {
                int at = placeAt(left + i % size, top + i / size);
                if (at != NO_PLACE && at < old.length) {
                    fresh[at] = paintedOn(old[at], pixel, 'n', opacity);
                }
            }
        }
    }

    private static final class Blur extends PictureEdit {
        private final int radius;

        Blur(int radius) {
            this.radius = radius;
        }

        boolean isEverywhere() {
            return true;
        }

        void plan(int[] old, int[] fresh) {
            for (int at = 0; at < fresh.length; at++) {
                fresh[at] = blurred(old, at);
            }
        }

        private int blurred(int[] old, int place) {
            int alphas = 0;
            int weighted = 0;
            int count = 0;
            for (int i = 0; i < areaWithin(radius); i++) {
                int at = placeNear(place, radius, i);
                if (at != NO_PLACE && at < old.length) {
                    alphas += alphaOf(old[at]);
                    weighted += valueOf(old[at]) * alphaOf(old[at]);
                    count++;
                }
            }
            return pixel(rounded(weighted, alphas), rounded(alphas, count));
        }
    }

    private static final class Repaint extends PictureEdit {
        private final Layer source;
        private final int place;
        private final int size;

        Repaint(Layer source, int place, int size) {
            this.source = source;
            this.place = place;
            this.size = size;
        }

        void plan(int[] old, int[] fresh) {
            for (int at = 0; at < source.pixels.length && at < fresh.length; at++) {
                if (isInBox(at, place, size, size)) {
                    fresh[at] = source.pixels[at];
                }
            }
        }
    }

    /** The rendered tiles that are kept. */
    private static final class Tiles {
        /** By rising places; only those of kept tiles count. */
        private final int[] pixels = new int[PIXELS];
        /** The number of the last look at each tile; 0 for one that is not kept. */
        private final int[] lastLook = new int[TILES];
        private int looks;
        private int limit = TILES;
        private int renderings;

        int look(Layers layers, int place) {
            int tile = tileOf(place);
            if (lastLook[tile] == 0) {
                dropDownTo(limit - 1);
                for (int i = 0; i < TILE_SIDE * TILE_SIDE; i++) {
                    int at = placeInTile(tile, i);
                    pixels[at] = layers.pixelAt(at);
                }
                renderings++;
            }
            looks++;
            lastLook[tile] = looks;
            return pixels[place];
        }

        void drop(int touched) {
            for (int tile = 0; tile < lastLook.length; tile++) {
                if ((touched >> tile & 1) == 1) {
                    lastLook[tile] = 0;
                }
            }
        }

        void dropDownTo(int most) {
            for (int kept = countKept(); kept > most; kept--) {
                int oldest = oldestKept();
                if (oldest >= 0) {
                    lastLook[oldest] = 0;
                }
            }
        }

        boolean agreeWith(Layers layers) {
            for (int at = 0; at < pixels.length; at++) {
                if (lastLook[tileOf(at)] > 0 && pixels[at] != layers.pixelAt(at)) {
                    return false;
                }
            }
            return true;
        }

        private int countKept() {
            int count = 0;
            for (int look : lastLook) {
                count += look > 0 ? 1 : 0;
            }
            return count;
        }

        private int oldestKept() {
            int oldest = -1;
            for (int tile = 0; tile < lastLook.length; tile++) {
                if (lastLook[tile] > 0 && (oldest < 0 || lastLook[tile] < lastLook[oldest])) {
                    oldest = tile;
                }
            }
            return oldest;
        }
    }

    /**
     * The best ways to part the pixels of the whole picture by their values, for all numbers of ranges at once.
     * The different values are counted from 0 by rising values; a range holds those from a first one up to an end.
     */
    private static final class Parting {
        private final int[] counts = new int[PIXELS];
        /** Of the pixels whose different value is less than the index: their number, sum, and sum of squares. */
        private final int[] number = new int[PIXELS + 1];
        private final int[] total = new int[PIXELS + 1];
        private final long[] squares = new long[PIXELS + 1];
        /** By a number of ranges and a first different value: the least error, and where the first range ends. */
        private final long[][] least = new long[MOST_RANGES + 1][PIXELS + 1];
        private final int[][] ends = new int[MOST_RANGES + 1][PIXELS + 1];
        private int different;
        private int solved = -1;

        /** A state never changes, so that what was found for it holds until another one is asked for. */
        void solve(State state) {
            if (state.number == solved) {
                return;
            }
            solved = state.number;
            Arrays.fill(counts, 0);
            for (int place = 0; place < PIXELS; place++) {
                int pixel = state.layers.pixelAt(place);
                counts[product(valueOf(pixel), alphaOf(pixel))]++;
            }
            addUp();
            findEnds();
        }

        int rangeValue(int values, int rank) {
            int ranges = Math.min(values, different);
            if (rank >= ranges) {
                return -1;
            }
            int first = 0;
            for (int i = 0; i < rank; i++) {
                first = ends[ranges - i][first];
            }
            return meanOf(first, ends[ranges - rank][first]);
        }

        long leastError(int values) {
            return least[Math.min(values, different)][0];
        }

        private void addUp() {
            different = 0;
            for (int value = 0; value < counts.length; value++) {
                if (counts[value] > 0) {
                    number[different + 1] = number[different] + counts[value];
                    total[different + 1] = total[different] + counts[value] * value;
                    squares[different + 1] = squares[different] + counts[value] * value * value;
                    different++;
                }
            }
        }

        private void findEnds() {
            for (int first = 0; first < different; first++) {
                least[1][first] = error(first, different);
                ends[1][first] = different;
            }
            for (int ranges = 2; ranges <= MOST_RANGES; ranges++) {
                for (int first = 0; first + ranges <= different; first++) {
                    chooseEnd(ranges, first);
                }
            }
        }

        /** Takes the earliest of the best ends, as the document wants it of several ways. */
        private void chooseEnd(int ranges, int first) {
            int bestEnd = first + 1;
            long best = error(first, bestEnd) + least[ranges - 1][bestEnd];
            for (int end = first + 2; end + ranges - 1 <= different; end++) {
                long error = error(first, end) + least[ranges - 1][end];
                if (error < best) {
                    best = error;
                    bestEnd = end;
                }
            }
            least[ranges][first] = best;
            ends[ranges][first] = bestEnd;
        }

        private int meanOf(int first, int end) {
            int pixels = number[end] - number[first];
            return pixels == 0 ? 0 : (total[end] - total[first]) / pixels;
        }

        private long error(int first, int end) {
            long mean = meanOf(first, end);
            long pixels = number[end] - number[first];
            return squares[end] - squares[first] - 2 * mean * (total[end] - total[first]) + mean * mean * pixels;
        }
    }
}
