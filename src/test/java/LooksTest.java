/** Promises 31 to 40: looks at the whole picture, its tiles, and its palettes. */
final class LooksTest {
    public static void main(String[] args) {
        valueAndAlpha();
        valueAnew();
        pixelsThatAreNotThere();
        setKept();
        setKeptDropsTheOldest();
        setKeptWrong();
        rendered();
        palette();
        paletteOfProducts();
        paletteOfSeveral();
        paletteOfEqualErrors();
        paletteOfAllValues();
        paletteOfCutMeans();
        paletteBehindEdits();
        paletteWrong();
        cover();
        mean();
        isConsistent();
        Check.end();
    }

    private static void valueAndAlpha() {
        Palettehouse house = Check.onePaintLayer();
        house.fill(0, 3 * 16 + 9, 1, 1, 70, 80);
        Check.same("value by x and y", 70, house.value(9, 3));
        Check.same("alpha by x and y", 80, house.alpha(9, 3));
        Check.same("value by y and x", 0, house.value(3, 9));
        Check.same("alpha by y and x", 0, house.alpha(3, 9));
        house.fill(0, 255, 1, 1, 255, 255);
        Check.same("the last value", 255, house.value(15, 15));
        Check.same("the last alpha", 255, house.alpha(15, 15));
    }

    private static void valueAnew() {
        Palettehouse house = Check.onePaintLayer();
        house.fill(0, 3 * 16 + 9, 1, 1, 70, 80);
        Check.same("value anew by x and y", 70, house.valueAnew(9, 3));
        Check.same("value anew by y and x", 0, house.valueAnew(3, 9));
        Check.same("no tile is looked at", 0, house.rendered());
    }

    private static void pixelsThatAreNotThere() {
        Palettehouse house = Check.onePaintLayer();
        for (int wrong : new int[] {-1, 16, Integer.MAX_VALUE, Integer.MIN_VALUE}) {
            Check.thrown("value, x " + wrong, Check.INDEX, house, h -> h.value(wrong, 0));
            Check.thrown("value, y " + wrong, Check.INDEX, house, h -> h.value(0, wrong));
            Check.thrown("alpha, x " + wrong, Check.INDEX, house, h -> h.alpha(wrong, 0));
            Check.thrown("alpha, y " + wrong, Check.INDEX, house, h -> h.alpha(0, wrong));
            Check.thrown("valueAnew, x " + wrong, Check.INDEX, house, h -> h.valueAnew(wrong, 0));
            Check.thrown("valueAnew, y " + wrong, Check.INDEX, house, h -> h.valueAnew(0, wrong));
        }
    }

    private static void setKept() {
        Palettehouse house = Check.onePaintLayer();
        Check.same("16 at first", 16, house.setKept(3));
        Check.same("the limit before", 3, house.setKept(1));
        Check.same("the limit before, again", 1, house.setKept(16));
        house.setKept(1);
        house.value(0, 0);
        house.value(4, 0);
        house.value(0, 0);
        Check.same("one tile is kept", 3, house.rendered());
        house.setKept(2);
        house.value(4, 0);
        house.value(0, 0);
        house.value(4, 0);
        Check.same("two tiles are kept", 4, house.rendered());
    }

    private static void setKeptDropsTheOldest() {
        Palettehouse house = Check.onePaintLayer();
        for (int x = 0; x < 16; x += 4) {
            house.value(x, 0);
        }
        house.alpha(0, 0);
        house.setKept(2);
        house.value(0, 0);
        house.value(12, 0);
        Check.same("the last two looked at are kept", 4, house.rendered());
        house.value(4, 0);
        Check.same("the others went", 5, house.rendered());
        house.setKept(16);
        house.value(12, 0);
        Check.same("this one is still kept", 5, house.rendered());
        house.value(0, 0);
        Check.same("this one went as the oldest one", 6, house.rendered());
        // A tile that an edit touched makes room: no other one must go.
        house.setKept(3);
        house.fill(0, 0, 1, 1, 1, 1);
        house.value(8, 0);
        house.value(4, 0);
        house.value(12, 0);
        Check.same("no tile went for it", 7, house.rendered());
    }

    private static void setKeptWrong() {
        Palettehouse house = Check.onePaintLayer();
        for (int wrong : new int[] {0, 17, -1, Integer.MIN_VALUE}) {
            Check.thrown("limit " + wrong, Check.ARGUMENT, house, h -> h.setKept(wrong));
        }
        Check.same("the limit is as it was", 16, house.setKept(16));
    }

    private static void rendered() {
        Palettehouse house = Check.onePaintLayer();
        for (int place = 0; place < 256; place++) {
            house.value(place % 16, place / 16);
        }
        Check.same("each tile once", 16, house.rendered());
        house.fill(0, 0, 5, 5, 1, 1);
        Check.same("four of them", 0x33, Check.tilesNotKept(house));
        Check.same("four of them once more", 20, house.rendered());
        house.go(0);
        Check.same("it counts over all states", 20, house.rendered());
    }

    private static void palette() {
        Palettehouse house = Check.onePaintLayer();
        Check.same("the one value of nothing", 0, house.palette(1, 0));
        Check.same("no second one", -1, house.palette(8, 1));
        house.fill(0, 0, 16, 16, 10, 255);
        house.fill(0, 0, 16, 4, 20, 255);
        house.fill(0, 0, 8, 4, 200, 255);
        house.fill(0, 0, 1, 4, 250, 255);
        // 192 of 10, 32 of 20, 28 of 200, 4 of 250.
        Check.same("one value: (1920 + 640 + 5600 + 1000) / 256", 35, house.palette(1, 0));
        Check.same("its error", 192 * 625 + 32 * 225 + 28 * 165 * 165 + 4 * 215 * 215, house.paletteError(1));
        Check.same("two values, the lower one: 2560 / 224", 11, house.palette(2, 0));
        Check.same("two values, the upper one: 6600 / 32", 206, house.palette(2, 1));
        Check.same("their error", 192 + 32 * 81 + 28 * 36 + 4 * 44 * 44, house.paletteError(2));
        Check.same("no third one of two", -1, house.palette(2, 2));
        Check.same("three values, the first one", 11, house.palette(3, 0));
        Check.same("three values, the second one", 200, house.palette(3, 1));
        Check.same("three values, the third one", 250, house.palette(3, 2));
        Check.same("the error of three", 192 + 32 * 81, house.paletteError(3));
        Check.same("four values", 20, house.palette(4, 1));
        Check.same("no error", 0, house.paletteError(4));
        Check.same("fewer than eight", 250, house.palette(8, 3));
        Check.same("no fifth one", -1, house.palette(8, 4));
        Check.same("no eighth one", -1, house.palette(8, 7));
        Check.same("no error of eight", 0, house.paletteError(8));
    }

    private static void paletteOfProducts() {
        Palettehouse house = Check.onePaintLayer();
        house.fill(0, 0, 16, 16, 200, 100);
        Check.same("value and alpha", 78, house.palette(1, 0));
        house.fill(0, 0, 16, 8, 100, 200);
        Check.same("the same product", -1, house.palette(8, 1));
        house.addLayer('a', -1);
        Check.same("the whole picture: 155 by 200", 122, house.palette(8, 1));
        Check.same("the whole picture: 55 by 100", 22, house.palette(8, 0));
    }

    private static void paletteOfSeveral() {
        Palettehouse house = Check.onePaintLayer();
        house.fill(0, 0, 16, 16, 0, 255);
        for (int i = 1; i < 16; i++) {
            house.fill(0, 16 * i, 16, 1, 3 * i * i / 4, 255);
        }
        // Rows: 0 0 3 6 12 18 27 36 48 60 75 90 108 126 147 168.
        int last = -1;
        for (int rank = 0; rank < 8; rank++) {
            int value = house.palette(8, rank);
            Check.isTrue("rising values of eight", value > last);
            last = value;
        }
        Check.same("the last value of eight", 168, last);
        int[] values = sortedValues(house);
        for (int ranges = 1; ranges <= 8; ranges++) {
            Check.same("the least error of " + ranges, leastFrom(values, 0, ranges), house.paletteError(ranges));
        }
    }

    /** Of a picture with the alpha 255 everywhere. */
    private static int[] sortedValues(Palettehouse house) {
        int[] values = new int[256];
        for (int place = 0; place < 256; place++) {
            values[place] = house.valueAnew(place % 16, place / 16);
        }
        java.util.Arrays.sort(values);
        return values;
    }

    /** The least error of all ways to part the values from the first one on, tried one by one. */
    private static long leastFrom(int[] values, int first, int ranges) {
        if (ranges == 1) {
            return errorOf(values, first, values.length);
        }
        long least = Long.MAX_VALUE / 2;
        for (int end = first + 1; end < values.length; end++) {
            if (values[end] != values[end - 1]) {
                least = Math.min(least, errorOf(values, first, end) + leastFrom(values, end, ranges - 1));
            }
        }
        return least;
    }

    private static long errorOf(int[] values, int first, int end) {
        long sum = 0;
        for (int i = first; i < end; i++) {
            sum += values[i];
        }
        long mean = sum / (end - first);
        long error = 0;
        for (int i = first; i < end; i++) {
            error += (values[i] - mean) * (values[i] - mean);
        }
        return error;
    }

    private static void paletteOfEqualErrors() {
        Palettehouse house = Check.onePaintLayer();
        house.fill(0, 0, 16, 16, 0, 255);
        house.fill(0, 0, 16, 15, 10, 255);
        house.fill(0, 0, 16, 14, 20, 255);
        house.fill(0, 0, 16, 1, 30, 255);
        house.fill(0, 0, 16, 12, 0, 0);
        house.fill(0, 12 * 16, 16, 1, 20, 255);
        house.fill(0, 13 * 16, 16, 1, 30, 255);
        // 208 of 0, 16 of 10, 16 of 20, 16 of 30: 10 with 20, or 20 with 30, makes the same error of three.
        Check.same("the second range ends first", 10, house.palette(3, 1));
        Check.same("the third one has the rest", 25, house.palette(3, 2));
        Check.same("the error of it", 2 * 16 * 25, house.paletteError(3));
        house = Check.onePaintLayer();
        house.fill(0, 0, 16, 16, 40, 255);
        house.fill(0, 0, 16, 8, 80, 255);
        house.fill(0, 0, 16, 4, 90, 255);
        house.fill(0, 128, 16, 4, 50, 255);
        // 64 of each of 40, 50, 80, 90: with three values, 40 alone is the earliest end.
        Check.same("the first range ends first", 40, house.palette(3, 0));
        Check.same("then 50", 50, house.palette(3, 1));
        Check.same("then both others", 85, house.palette(3, 2));
    }

    /** Each value from 0 to 255 once: rows of 0 to 15, and on them columns of 0, 16, 32 and so on in the mode 'a'. */
    private static void paletteOfAllValues() {
        Palettehouse house = Check.onePaintLayer();
        house.addLayer('p', -1);
        house.setLook(1, 255, 'a', true);
        for (int i = 0; i < 16; i++) {
            house.fill(0, 16 * i, 16, 1, i, 255);
            house.fill(1, i, 1, 16, 16 * i, 255);
        }
        Check.same("one value: 32640 / 256", 127, house.palette(1, 0));
        // The squares of 1 to 127 twice, and that of 128.
        Check.same("the error of one", 127 * 128 * 255 / 3 + 128 * 128, house.paletteError(1));
        // With means that are cut, 31, 32 and 33 values on end make 2480, 2736 and 2992: they stand evenly apart,
        // so that all ways to part with these are as good, and the earliest ends come of 31 four times.
        int[] due = {15, 46, 77, 108, 140, 173, 206, 239};
        for (int rank = 0; rank < 8; rank++) {
            Check.same("value " + rank + " of eight", due[rank], house.palette(8, rank));
        }
        Check.same("the error of eight", 4 * 2480 + 4 * 2992, house.paletteError(8));
    }

    private static void paletteOfCutMeans() {
        Palettehouse house = Check.onePaintLayer();
        house.fill(0, 0, 16, 16, 0, 255);
        house.fill(0, 0, 16, 12, 2, 255);
        // 64 of 0 and 192 of 2: the value 1.5 is cut to 1.
        Check.same("a value is cut", 1, house.palette(1, 0));
        Check.same("the error by the value that is cut", 256, house.paletteError(1));
    }

    private static void paletteBehindEdits() {
        Palettehouse house = Check.onePaintLayer();
        house.fill(0, 0, 16, 16, 10, 255);
        Check.same("a value", 10, house.palette(1, 0));
        house.fill(0, 0, 16, 16, 30, 255);
        Check.same("the value behind an edit", 30, house.palette(1, 0));
        house.undo();
        Check.same("the value of the state before", 10, house.palette(1, 0));
        Check.same("no error of it", 0, house.paletteError(1));
        house.setLook(0, 100, 'n', true);
        Check.same("the value of an edit behind it", 4, house.palette(1, 0));
    }

    private static void paletteWrong() {
        Palettehouse house = Check.onePaintLayer();
        for (int wrong : new int[] {0, 9, -1, Integer.MAX_VALUE}) {
            Check.thrown("palette of " + wrong, Check.ARGUMENT, house, h -> h.palette(wrong, 0));
            Check.thrown("error of " + wrong, Check.ARGUMENT, house, h -> h.paletteError(wrong));
        }
        for (int wrong : new int[] {-1, 8, Integer.MIN_VALUE}) {
            Check.thrown("rank " + wrong, Check.ARGUMENT, house, h -> h.palette(1, wrong));
        }
    }

    private static void cover() {
        Palettehouse house = Check.onePaintLayer();
        Check.sameDouble("nothing is covered", 0, house.cover());
        house.fill(0, 0, 16, 16, 9, 255);
        Check.sameDouble("all is covered", 1, house.cover());
        house.fill(0, 0, 16, 15, 9, 0);
        Check.sameDouble("a row is covered", 4080f / 65280f, house.cover());
        house.fill(0, 0, 1, 1, 9, 7);
        Check.sameDouble("a little more is covered", (float) 4087 / (float) 65280, house.cover());
        house.setLook(0, 100, 'n', true);
        Check.sameDouble("by the whole picture", (float) (1600 + 3) / (float) 65280, house.cover());
    }

    private static void mean() {
        Palettehouse house = Check.onePaintLayer();
        Check.thrown("the mean of nothing", Check.ARITHMETIC, house, h -> h.mean());
        house.fill(0, 0, 1, 1, 10, 100);
        Check.sameDouble("of one pixel", 10, house.mean());
        house.fill(0, 1, 2, 1, 21, 7);
        Check.sameDouble("of three pixels", (double) (1000 + 2 * 147) / (double) 114, house.mean());
        house.addLayer('a', -1);
        Check.sameDouble("of the whole picture", (double) (24500 + 2 * 234 * 7) / (double) 114, house.mean());
        house.fill(0, 0, 16, 16, 200, 0);
        Check.thrown("the mean of values without alpha", Check.ARITHMETIC, house, h -> h.mean());
    }

    private static void isConsistent() {
        Palettehouse house = Check.onePaintLayer();
        Check.isTrue("without tiles", house.isConsistent());
        house.fill(0, 0, 16, 16, 10, 20);
        Check.tilesNotKept(house);
        Check.isTrue("with all tiles", house.isConsistent());
        house.fill(0, 5, 9, 9, 30, 40);
        Check.isTrue("behind an edit", house.isConsistent());
        house.setKept(3);
        Check.tilesNotKept(house);
        house.go(0);
        Check.isTrue("in another state", house.isConsistent());
    }
}
