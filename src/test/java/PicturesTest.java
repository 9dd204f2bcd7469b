/** Promises 11 to 15: edits of pictures and masks, and how the selection and a lock bound them. */
final class PicturesTest {
    private static final int ALL = 0xFFFF;

    public static void main(String[] args) {
        fill();
        fillBySelection();
        fillByHalf();
        fillLocked();
        fillTiles();
        fillWrong();
        fillMask();
        fillMaskWrong();
        stroke();
        strokeStamps();
        strokeOnAlpha();
        strokeTiles();
        strokeWrong();
        blur();
        blurRounded();
        blurByOffset();
        blurWrong();
        paintFrom();
        paintFromBounds();
        paintFromWrong();
        Check.end();
    }

    private static void pixel(String what, int value, int alpha, Palettehouse house, int x, int y) {
        Check.same("value of " + what, value, house.value(x, y));
        Check.same("alpha of " + what, alpha, house.alpha(x, y));
    }

    private static int countOfAlpha(Palettehouse house, int alpha) {
        int count = 0;
        for (int place = 0; place < 256; place++) {
            count += house.alpha(place % 16, place / 16) == alpha ? 1 : 0;
        }
        return count;
    }

    private static void fill() {
        Palettehouse house = Check.onePaintLayer();
        Check.same("fill answers the state", 2, house.fill(0, 2 * 16 + 14, 9, 3, 50, 60));
        pixel("the first pixel", 50, 60, house, 14, 2);
        pixel("the last pixel that is in the picture", 50, 60, house, 15, 4);
        pixel("a pixel below the box", 0, 0, house, 15, 5);
        pixel("a pixel ahead of the box", 0, 0, house, 13, 2);
        pixel("no pixel of the next row", 0, 0, house, 0, 3);
        fillsSoMany(6, 2 * 16 + 14, 9, 3);
        fillsSoMany(256, 0, 16, 16);
        fillsSoMany(1, 255, 16, 16);
        fillsSoMany(16, 3, 1, 16);
        fillsSoMany(16, 3 * 16, 16, 1);
    }

    private static void fillsSoMany(int due, int place, int width, int height) {
        Palettehouse house = Check.onePaintLayer();
        house.fill(0, place, width, height, 1, 77);
        Check.same("pixels of " + width + " by " + height + " from " + place + " on", due, countOfAlpha(house, 77));
    }

    private static void fillBySelection() {
        Palettehouse house = Check.onePaintLayer();
        house.fill(0, 0, 16, 16, 40, 20);
        house.select(5 * 16 + 5, 1, 1, 'r');
        house.feather();
        // 255 at one of nine pixels: (255 + 4) / 9 = 28.
        house.fill(0, 0, 16, 16, 250, 255);
        pixel("a pixel with 28", (28 * 250 + 227 * 40 + 127) / 255, (28 * 255 + 227 * 20 + 127) / 255, house, 4, 6);
        pixel("a pixel with 0", 40, 20, house, 7, 5);
        // The selection is seen by the offset: the pixel at 5, 5 of the whole picture is the one at 2, 9.
        house.setOffset(0, 3, -4);
        house.fill(0, 9 * 16 + 2, 1, 1, 200, 0);
        int old = (28 * 250 + 227 * 40 + 127) / 255;
        house.setOffset(0, 0, 0);
        pixel("the pixel with 28 by an offset", (28 * 200 + 227 * 40 + 127) / 255, (227 * 20 + 127) / 255, house, 2, 9);
        pixel("the pixel with 28 ahead of it", old, (28 * 255 + 227 * 20 + 127) / 255, house, 5, 5);
    }

    private static void fillByHalf() {
        Palettehouse house = Check.onePaintLayer();
        house.select(0, 1, 16, 'r');
        house.feather();
        // Three of six, and (3 * 255 + 3) / 6 = 128; 128 * 1 + 127 = 255.
        Check.same("the half is selected", 128, house.selected(0, 5));
        house.fill(0, 0, 16, 16, 1, 255);
        pixel("the half of 1 is rounded up", 1, 128, house, 0, 5);
        pixel("a third of 1 is 0", 0, 85, house, 1, 5);
    }

    private static void fillLocked() {
        Palettehouse house = Check.onePaintLayer();
        house.fill(0, 0, 8, 16, 40, 20);
        house.lock(0, true);
        house.fill(0, 0, 16, 16, 90, 255);
        pixel("a locked pixel", 90, 20, house, 0, 0);
        pixel("a locked pixel without alpha", 0, 0, house, 8, 0);
        house.lock(0, false);
        house.select(8, 1, 1, 'r');
        house.feather();
        // One of six pixels: (255 + 3) / 6 = 43. The value below is 90, as it was changed without an alpha.
        house.fill(0, 8, 1, 1, 200, 255);
        pixel("a value that came to a pixel without alpha", (43 * 200 + 212 * 90 + 127) / 255, 43, house, 8, 0);
    }

    private static void fillTiles() {
        Palettehouse house = Check.onePaintLayer();
        Check.same("one pixel", 1 << 6, Check.tilesTouched(house, h -> h.fill(0, 4 * 16 + 8, 1, 1, 5, 5)));
        Check.same("nothing changes", 1 << 6, Check.tilesTouched(house, h -> h.fill(0, 4 * 16 + 8, 1, 1, 5, 5)));
        Check.same("four tiles", 0x33, Check.tilesTouched(house, h -> h.fill(0, 3 * 16 + 3, 2, 2, 5, 5)));
        Check.same("all tiles", ALL, Check.tilesTouched(house, h -> h.fill(0, 0, 16, 16, 5, 5)));
        house.setOffset(0, 5, -2);
        Check.same("by the offset", 0x6, Check.tilesTouched(house, h -> h.fill(0, 3 * 16 + 2, 2, 1, 5, 5)));
        Check.same("as far as they are seen", 1 << 3, Check.tilesTouched(house, h -> h.fill(0, 2 * 16 + 10, 6, 2, 5, 5)));
        Check.same("nothing is seen", 0, Check.tilesTouched(house, h -> h.fill(0, 0, 16, 2, 5, 5)));
        house.setOffset(0, 0, 0);
        house.select(0, 1, 1, 'r');
        Check.same("no matter what is selected", ALL, Check.tilesTouched(house, h -> h.fill(0, 0, 16, 16, 9, 9)));
        house.setLook(0, 0, 'n', true);
        Check.same("no matter the opacity", 1, Check.tilesTouched(house, h -> h.fill(0, 0, 1, 1, 9, 9)));
    }

    private static void fillWrong() {
        Palettehouse house = Check.onePaintLayer();
        house.addLayer('g', -1);
        Check.thrown("no such layer", Check.INDEX, house, h -> h.fill(2, -1, 1, 1, 1, 1));
        Check.thrown("place -1", Check.ARGUMENT, house, h -> h.fill(0, -1, 1, 1, 1, 1));
        Check.thrown("place 256", Check.ARGUMENT, house, h -> h.fill(0, 256, 1, 1, 1, 1));
        Check.thrown("width 0", Check.ARGUMENT, house, h -> h.fill(0, 0, 0, 1, 1, 1));
        Check.thrown("width 17", Check.ARGUMENT, house, h -> h.fill(0, 0, 17, 1, 1, 1));
        Check.thrown("height 0", Check.ARGUMENT, house, h -> h.fill(0, 0, 1, 0, 1, 1));
        Check.thrown("height 17", Check.ARGUMENT, house, h -> h.fill(0, 0, 1, 17, 1, 1));
        Check.thrown("value -1", Check.ARGUMENT, house, h -> h.fill(0, 0, 1, 1, -1, 1));
        Check.thrown("value 256", Check.ARGUMENT, house, h -> h.fill(0, 0, 1, 1, 256, 1));
        Check.thrown("alpha -1", Check.ARGUMENT, house, h -> h.fill(0, 0, 1, 1, 1, -1));
        Check.thrown("alpha 256", Check.ARGUMENT, house, h -> h.fill(0, 0, 1, 1, 1, 256));
        Check.thrown("a number ahead of a group", Check.ARGUMENT, house, h -> h.fill(1, 0, 1, 1, 1, 256));
        Check.thrown("a group", Check.UNSUPPORTED, house, h -> h.fill(1, 0, 1, 1, 1, 1));
        Check.fullOfStates(house);
        Check.thrown("60 states", Check.STATE, house, h -> h.fill(0, 0, 1, 1, 1, 1));
        Check.thrown("a group at 60 states", Check.UNSUPPORTED, house, h -> h.fill(1, 0, 1, 1, 1, 1));
    }

    private static void fillMask() {
        Palettehouse house = Check.onePaintLayer();
        house.fill(0, 0, 16, 16, 100, 255);
        house.setMask(0, true);
        house.setOffset(0, 1, 0);
        house.select(0, 1, 1, 'r');
        house.lock(0, true);
        Check.same("fillMask answers the state", 7, house.fillMask(0, 14 * 16 + 13, 2, 9, 30));
        pixel("the first pixel", 100, 30, house, 13, 14);
        pixel("the last pixel", 100, 30, house, 14, 15);
        pixel("beside it", 100, 255, house, 15, 15);
        Check.same("so many pixels", 4, countOfAlpha(house, 30));
        Check.same("tiles where they are", 1 << 5, Check.tilesTouched(house, h -> h.fillMask(0, 7 * 16 + 7, 1, 1, 255)));
        Check.same("tiles of both columns", 0xCC, Check.tilesTouched(house, h -> h.fillMask(0, 3 * 16 + 11, 9, 2, 255)));
        house.undo();
        house.undo();
        house.undo();
        pixel("the mask of the state ahead", 100, 255, house, 13, 14);
    }

    private static void fillMaskWrong() {
        Palettehouse house = Check.onePaintLayer();
        house.addLayer('g', -1);
        house.setMask(1, true);
        Check.thrown("no such layer", Check.INDEX, house, h -> h.fillMask(2, -1, 1, 1, 1));
        Check.thrown("place -1", Check.ARGUMENT, house, h -> h.fillMask(1, -1, 1, 1, 1));
        Check.thrown("place 256", Check.ARGUMENT, house, h -> h.fillMask(1, 256, 1, 1, 1));
        Check.thrown("width 0", Check.ARGUMENT, house, h -> h.fillMask(1, 0, 0, 1, 1));
        Check.thrown("width 17", Check.ARGUMENT, house, h -> h.fillMask(1, 0, 17, 1, 1));
        Check.thrown("height 0", Check.ARGUMENT, house, h -> h.fillMask(1, 0, 1, 0, 1));
        Check.thrown("height 17", Check.ARGUMENT, house, h -> h.fillMask(1, 0, 1, 17, 1));
        Check.thrown("number -1", Check.ARGUMENT, house, h -> h.fillMask(1, 0, 1, 1, -1));
        Check.thrown("number 256", Check.ARGUMENT, house, h -> h.fillMask(1, 0, 1, 1, 256));
        Check.thrown("a number ahead of no mask", Check.ARGUMENT, house, h -> h.fillMask(0, 0, 1, 1, 256));
        Check.thrown("no mask", Check.UNSUPPORTED, house, h -> h.fillMask(0, 0, 1, 1, 1));
        Check.fullOfStates(house);
        Check.thrown("60 states", Check.STATE, house, h -> h.fillMask(1, 0, 1, 1, 1));
        Check.thrown("no mask at 60 states", Check.UNSUPPORTED, house, h -> h.fillMask(0, 0, 1, 1, 1));
    }

    /** The places with an alpha, as x and y in rows of letters. */
    private static String placesOf(Palettehouse house) {
        StringBuilder places = new StringBuilder();
        for (int place = 0; place < 256; place++) {
            if (house.alpha(place % 16, place / 16) > 0) {
                places.append((char) ('a' + place % 16)).append((char) ('A' + place / 16)).append(' ');
            }
        }
        return places.toString().trim();
    }

    private static void strokePlaces(String due, int from, int to, int size, int spacing) {
        Palettehouse house = Check.onePaintLayer();
        Check.same("stroke answers the state", 2, house.stroke(0, from, to, size, spacing, 9, 255));
        String got = placesOf(house);
        Check.isTrue("stroke from " + from + " to " + to + ": " + got + ", due is " + due, got.equals(due));
    }

    private static void stroke() {
        strokePlaces("bB", 17, 17, 1, 9);
        strokePlaces("bB cB", 17, 18, 1, 1);
        strokePlaces("bB bC", 33, 17, 1, 1);
        strokePlaces("bB cB dB eB", 17, 20, 1, 1);
        strokePlaces("bB cB dB eB", 20, 17, 1, 1);
        // y moves by 1 in 3 steps: 0, 1/3, 2/3, 1, rounded toward 0.
        strokePlaces("bB cB dB eC", 17, 2 * 16 + 4, 1, 1);
        // And back: 2 - 1/3 is 2 - 0, as the way is rounded, not the place.
        strokePlaces("bB cC dC eC", 2 * 16 + 4, 17, 1, 1);
        strokePlaces("cA bB bC aD aE", 4 * 16, 2, 1, 1);
        strokePlaces("cA cB bC bD aE", 2, 4 * 16, 1, 1);
        strokePlaces("aA dD gG", 0, 7 * 16 + 7, 1, 3);
        strokePlaces("aA dD gG", 0, 6 * 16 + 6, 1, 3);
        strokePlaces("aA", 0, 8, 1, 9);
        strokePlaces("aA jA", 0, 9, 1, 9);
    }

    private static void strokeStamps() {
        strokePlaces("bB cB fB gB bC cC fC gC", 17, 21, 2, 4);
        strokePlaces("pP", 255, 255, 4, 1);
        strokePlaces("nA oA pA nB oB pB nC oC pC nD oD pD", 13, 13, 4, 1);
        strokePlaces("aA bA cA aB bB cB aC bC cC", 0, 0, 3, 1);
    }

    private static void strokeOnAlpha() {
        Palettehouse house = Check.onePaintLayer();
        house.fill(0, 0, 16, 16, 200, 100);
        house.stroke(0, 0, 3, 4, 1, 50, 80);
        // Stamps on stamps count once: d = 255 * 80 + 175 * 100 = 37900, n = 80 * 255 * 50 + 175 * 100 * 200.
        pixel("a pixel in four stamps", (2 * 4520000 + 37900) / 75800, (2 * 37900 + 255) / 510, house, 3, 0);
        pixel("a pixel in one stamp", (2 * 4520000 + 37900) / 75800, (2 * 37900 + 255) / 510, house, 0, 0);
        house.stroke(0, 255, 255, 1, 1, 50, 0);
        pixel("no opacity", 200, 100, house, 15, 15);
        house.stroke(0, 16, 16, 1, 1, 0, 255);
        pixel("the least value", 0, 255, house, 0, 1);
        house.stroke(0, 16, 16, 1, 1, 255, 255);
        pixel("the greatest value", 255, 255, house, 0, 1);
        house.lock(0, true);
        house.stroke(0, 255, 255, 1, 1, 50, 255);
        pixel("a locked pixel", 50, 100, house, 15, 15);
        house.select(0, 1, 1, 'r');
        house.stroke(0, 254, 254, 1, 1, 50, 255);
        pixel("what is not selected", 200, 100, house, 14, 15);
    }

    private static void strokeTiles() {
        Palettehouse house = Check.onePaintLayer();
        Check.same("a stroke in tiles", 0x3, Check.tilesTouched(house, h -> h.stroke(0, 0, 7, 1, 1, 1, 1)));
        Check.same("stamps in tiles, not steps", 0x5, Check.tilesTouched(house, h -> h.stroke(0, 0, 9, 1, 9, 1, 0)));
        Check.same("a stamp over a corner", 0x33, Check.tilesTouched(house, h -> h.stroke(0, 51, 51, 2, 1, 1, 1)));
        house.setOffset(0, -8, 8);
        Check.same("by the offset", 1 << 8, Check.tilesTouched(house, h -> h.stroke(0, 0, 9, 1, 9, 1, 1)));
    }

    private static void strokeWrong() {
        Palettehouse house = Check.onePaintLayer();
        house.addLayer('a', -1);
        Check.thrown("no such layer", Check.INDEX, house, h -> h.stroke(2, -1, 0, 1, 1, 1, 1));
        Check.thrown("from -1", Check.ARGUMENT, house, h -> h.stroke(0, -1, 0, 1, 1, 1, 1));
        Check.thrown("from 256", Check.ARGUMENT, house, h -> h.stroke(0, 256, 0, 1, 1, 1, 1));
        Check.thrown("to -1", Check.ARGUMENT, house, h -> h.stroke(0, 0, -1, 1, 1, 1, 1));
        Check.thrown("to 256", Check.ARGUMENT, house, h -> h.stroke(0, 0, 256, 1, 1, 1, 1));
        Check.thrown("size 0", Check.ARGUMENT, house, h -> h.stroke(0, 0, 0, 0, 1, 1, 1));
        Check.thrown("size 5", Check.ARGUMENT, house, h -> h.stroke(0, 0, 0, 5, 1, 1, 1));
        Check.thrown("spacing 0", Check.ARGUMENT, house, h -> h.stroke(0, 0, 0, 1, 0, 1, 1));
        Check.thrown("spacing 10", Check.ARGUMENT, house, h -> h.stroke(0, 0, 0, 1, 10, 1, 1));
        Check.thrown("value -1", Check.ARGUMENT, house, h -> h.stroke(0, 0, 0, 1, 1, -1, 1));
        Check.thrown("value 256", Check.ARGUMENT, house, h -> h.stroke(0, 0, 0, 1, 1, 256, 1));
        Check.thrown("opacity -1", Check.ARGUMENT, house, h -> h.stroke(0, 0, 0, 1, 1, 1, -1));
        Check.thrown("opacity 256", Check.ARGUMENT, house, h -> h.stroke(0, 0, 0, 1, 1, 1, 256));
        Check.thrown("a number ahead of a change", Check.ARGUMENT, house, h -> h.stroke(1, 0, 0, 1, 1, 1, 256));
        Check.thrown("a change", Check.UNSUPPORTED, house, h -> h.stroke(1, 0, 0, 1, 1, 1, 1));
        Check.fullOfStates(house);
        Check.thrown("60 states", Check.STATE, house, h -> h.stroke(0, 0, 0, 1, 1, 1, 1));
        Check.thrown("a change at 60 states", Check.UNSUPPORTED, house, h -> h.stroke(1, 0, 0, 1, 1, 1, 1));
    }

    private static void blur() {
        Palettehouse house = Check.onePaintLayer();
        house.fill(0, 5 * 16 + 5, 1, 1, 90, 255);
        house.fill(0, 5 * 16 + 6, 1, 1, 30, 100);
        Check.same("blur answers the state", 4, house.blur(0, 1));
        // Of nine pixels: d = 355, and 90 * 255 + 30 * 100 = 25950.
        pixel("near both", (2 * 25950 + 355) / 710, (2 * 355 + 9) / 18, house, 5, 5);
        pixel("near the first one", 90, (2 * 255 + 9) / 18, house, 4, 4);
        pixel("near the second one", 30, (2 * 100 + 9) / 18, house, 7, 6);
        pixel("near none", 0, 0, house, 8, 5);
        pixel("two away", 0, 0, house, 5, 7);
        house.undo();
        house.blur(0, 2);
        pixel("of 25 pixels", (2 * 25950 + 355) / 710, (2 * 355 + 25) / 50, house, 5, 7);
        house.go(1);
        house.fill(0, 0, 1, 1, 77, 200);
        house.fill(0, 255, 1, 1, 66, 200);
        house.blur(0, 1);
        pixel("a corner has four", 77, (2 * 200 + 4) / 8, house, 0, 0);
        pixel("a side has six", 77, (2 * 200 + 6) / 12, house, 1, 0);
        pixel("the last corner has four", 66, (2 * 200 + 4) / 8, house, 15, 15);
        house.lock(0, true);
        house.blur(0, 2);
        Check.same("a locked alpha", (2 * 200 + 4) / 8, house.alpha(0, 0));
        Check.same("no alpha comes to it", 0, house.alpha(2, 2));
    }

    private static void blurRounded() {
        Palettehouse house = Check.onePaintLayer();
        house.fill(0, 8 * 16 + 8, 1, 1, 0, 5);
        house.blur(0, 1);
        pixel("a value 0 stays, and its alpha is (10 + 9) / 18", 0, 1, house, 8, 8);
        // Nine alphas of 1, and one value among them: (2 * 4 + 9) / 18 is 0, and (2 * 5 + 9) / 18 is 1.
        int nine = house.state();
        house.fill(0, 8 * 16 + 8, 1, 1, 4, 1);
        house.blur(0, 1);
        pixel("less than a half", 0, 1, house, 8, 8);
        house.go(nine);
        house.fill(0, 8 * 16 + 8, 1, 1, 5, 1);
        house.blur(0, 1);
        pixel("more than a half", 1, 1, house, 8, 8);
    }

    private static void blurByOffset() {
        Palettehouse house = Check.onePaintLayer();
        house.fill(0, 0, 1, 1, 90, 252);
        house.setOffset(0, 15, 15);
        Check.same("blur touches all tiles", ALL, Check.tilesTouched(house, h -> h.blur(0, 1)));
        house.setOffset(0, 0, 0);
        pixel("what was seen", 90, 63, house, 0, 0);
        pixel("what was not seen", 0, 0, house, 1, 1);
        house.select(0, 1, 1, 's');
        house.blur(0, 1);
        pixel("what is not selected", 90, 63, house, 0, 0);
        pixel("what is selected", 90, (2 * 63 + 9) / 18, house, 1, 1);
    }

    private static void blurWrong() {
        Palettehouse house = Check.onePaintLayer();
        house.addLayer('g', -1);
        Check.thrown("no such layer", Check.INDEX, house, h -> h.blur(-1, 0));
        Check.thrown("radius 0", Check.ARGUMENT, house, h -> h.blur(0, 0));
        Check.thrown("radius 3", Check.ARGUMENT, house, h -> h.blur(0, 3));
        Check.thrown("radius 0 of a group", Check.ARGUMENT, house, h -> h.blur(1, 0));
        Check.thrown("a group", Check.UNSUPPORTED, house, h -> h.blur(1, 1));
        Check.fullOfStates(house);
        Check.thrown("60 states", Check.STATE, house, h -> h.blur(0, 1));
        Check.thrown("a group at 60 states", Check.UNSUPPORTED, house, h -> h.blur(1, 1));
    }

    private static void paintFrom() {
        Palettehouse house = Check.onePaintLayer();
        house.fill(0, 0, 16, 16, 50, 60);
        house.fill(0, 0, 16, 16, 70, 80);
        Check.same("paintFrom answers the state", 4, house.paintFrom(0, 2, 17, 2));
        pixel("as in the state 2", 50, 60, house, 1, 1);
        pixel("the last one of the square", 50, 60, house, 2, 2);
        pixel("beside the square", 70, 80, house, 3, 2);
        Check.same("so many pixels", 4, countOfAlpha(house, 60));
        long sum = house.sum();
        Check.same("from the present state", 5, house.paintFrom(0, 4, 0, 16));
        Check.same("nothing changes", sum, house.sum());
        house.go(2);
        house.paintFrom(0, 5, 0, 2);
        pixel("from a state of another branch", 70, 80, house, 0, 0);
        pixel("from it, too", 50, 60, house, 1, 1);
        house.go(1);
        sum = house.sum();
        house.go(5);
        house.paintFrom(0, 1, 0, 16);
        Check.same("from an empty picture", sum, house.sum());
    }

    private static void paintFromBounds() {
        Palettehouse house = Check.onePaintLayer();
        house.fill(0, 0, 16, 16, 50, 60);
        house.setOffset(0, 4, 0);
        house.fill(0, 0, 16, 16, 70, 80);
        Check.same("tiles by the present offset", 0x66, Check.tilesTouched(house, h -> h.paintFrom(0, 2, 3 * 16 + 3, 2)));
        pixel("by the present offset", 50, 60, house, 8, 4);
        house.paintFrom(0, 2, 11 + 15 * 16, 16);
        pixel("as far as there are pixels", 50, 60, house, 15, 15);
        pixel("ahead of them", 70, 80, house, 14, 15);
        house.lock(0, true);
        house.paintFrom(0, 2, 0, 1);
        pixel("a locked pixel", 50, 80, house, 4, 0);
        house.select(0, 16, 16, 's');
        house.paintFrom(0, 2, 0, 16);
        pixel("what is not selected", 70, 80, house, 5, 0);
    }

    private static void paintFromWrong() {
        Palettehouse house = Check.onePaintLayer();
        house.addLayer('g', -1);
        house.addLayer('p', -1);
        Check.thrown("no such layer", Check.INDEX, house, h -> h.paintFrom(3, 0, 0, 1));
        Check.thrown("no such state", Check.INDEX, house, h -> h.paintFrom(0, 4, 0, 1));
        Check.thrown("state -1", Check.INDEX, house, h -> h.paintFrom(0, -1, 0, 1));
        Check.thrown("no such state ahead of a number", Check.INDEX, house, h -> h.paintFrom(1, 4, -1, 0));
        Check.thrown("place -1", Check.ARGUMENT, house, h -> h.paintFrom(0, 1, -1, 1));
        Check.thrown("place 256", Check.ARGUMENT, house, h -> h.paintFrom(0, 1, 256, 1));
        Check.thrown("size 0", Check.ARGUMENT, house, h -> h.paintFrom(0, 1, 0, 0));
        Check.thrown("size 17", Check.ARGUMENT, house, h -> h.paintFrom(0, 1, 0, 17));
        Check.thrown("size 17 of a group", Check.ARGUMENT, house, h -> h.paintFrom(1, 0, 0, 17));
        Check.thrown("a group", Check.UNSUPPORTED, house, h -> h.paintFrom(1, 3, 0, 1));
        Check.thrown("not there in that state", Check.UNSUPPORTED, house, h -> h.paintFrom(2, 2, 0, 1));
        Check.fullOfStates(house);
        Check.thrown("60 states", Check.STATE, house, h -> h.paintFrom(0, 1, 0, 1));
        Check.thrown("not there, at 60 states", Check.UNSUPPORTED, house, h -> h.paintFrom(2, 2, 0, 1));
    }
}
