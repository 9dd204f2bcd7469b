import java.math.BigInteger;

/**
 * The edges that the promises name, in their order: the least and the greatest number that is allowed and what they do,
 * nothing there and all places taken, sums that go round. What lies beyond them is refused, as RefusalsTest has it.
 */
final class BoundsTest {
    private static final int ALL = 0xFFFF;

    public static void main(String[] args) {
        promise1NothingIsThere();
        promise2AddLayer();
        promise2LastState();
        promise3Opacities();
        promise3Modes();
        promise4Passing();
        promise5AnyNumbers();
        promise6Offsets();
        promise7LockAsItWas();
        promise8Places();
        promise9LastLayer();
        promise10Mask();
        promise11Boxes();
        promise11Levels();
        promise12Boxes();
        promise12Levels();
        promise13Steps();
        promise13Stamps();
        promise13Levels();
        promise14Corners();
        promise14NoAlpha();
        promise15States();
        promise15Squares();
        promise16Boxes();
        promise16Ways();
        promise17Tolerances();
        promise17Places();
        promise17Offsets();
        promise17NothingSeen();
        promise18Growing();
        promise18Shrinking();
        promise19Feather();
        promise20Invert();
        promise21Selected();
        promise22Undo();
        promise23Redo();
        promise24Go();
        promise25And26States();
        promise27SumGoesRound();
        promise27NothingThere();
        promise28And29Records();
        promise30Rooms();
        promise30Records();
        promise31To33Pixels();
        promise34Limits();
        promise35Rendered();
        promise36FewerValuesThanRanges();
        promise36OneAndEight();
        promise36Ties();
        promise37Errors();
        promise38Cover();
        promise39Mean();
        promise40Consistent();
        Check.end();
    }

    private static Palettehouse filled(int value, int alpha) {
        Palettehouse house = Check.onePaintLayer();
        house.fill(0, 0, 16, 16, value, alpha);
        return house;
    }

    private static Palettehouse withOneRoomLeft() {
        Palettehouse house = filled(50, 255);
        while (house.states() < 59) {
            house.invert();
        }
        return house;
    }

    private static void pixel(String what, int value, int alpha, Palettehouse house, int x, int y) {
        Check.same("value of " + what, value, house.valueAnew(x, y));
        Check.same("alpha of " + what, alpha, house.alpha(x, y));
    }

    /** The pixels of the box, from left and top to right and bottom, have this alpha; others have 0. */
    private static void box(String what, Palettehouse house, int alpha, int left, int top, int right, int bottom) {
        for (int y = 0; y < 16; y++) {
            for (int x = 0; x < 16; x++) {
                boolean isIn = x >= left && x <= right && y >= top && y <= bottom;
                Check.same(what + " at " + x + ", " + y, isIn ? alpha : 0, house.alpha(x, y));
            }
        }
    }

    // ---- promises 1 to 10

    private static void promise1NothingIsThere() {
        Palettehouse house = new Palettehouse();
        Check.same("the state", 0, house.state());
        Check.same("the states", 1, house.states());
        Check.same("the tiles", 0, house.rendered());
        for (int layer = -1; layer < 9; layer++) {
            int asked = layer;
            Check.thrown("no layer " + layer, Check.INDEX, house, h -> h.remove(asked));
        }
        Check.thrown("no state behind", Check.ELEMENT, house, h -> h.redo(0));
        Check.thrown("no state ahead", Check.ELEMENT, house, h -> h.undo());
        Check.thrown("no state 1", Check.INDEX, house, h -> h.go(1));
        Check.same("the state 0 is there", 0, house.go(0));
        Check.thrown("no record", Check.INDEX, house, h -> h.play(0, 0));
        Check.thrown("no recording", Check.STATE, house, h -> h.stop());
        Check.thrown("no alpha", Check.ARITHMETIC, house, h -> h.mean());
        Check.same("no palette but 0", 0, house.palette(8, 0));
        Check.same("no second value", -1, house.palette(8, 1));
        Check.same("no error", 0, house.paletteError(1));
        Check.sameDouble("no cover", 0, house.cover());
        Check.isTrue("consistent", house.isConsistent());
        pixel("the first pixel", 0, 0, house, 0, 0);
        pixel("the last pixel", 0, 0, house, 15, 15);
        Check.same("no record is kept", 0, house.record());
        Check.same("the limit", 16, house.setKept(1));
    }

    private static void promise2AddLayer() {
        Palettehouse house = new Palettehouse();
        Check.same("the least number", 0, house.addLayer('g', -1));
        Check.same("the group 0", 1, house.addLayer('a', 0));
        Check.thrown("no group 2", Check.INDEX, house, h -> h.addLayer('a', 2));
        Check.same("the next number", 2, house.addLayer('g', 0));
        Check.same("the last one as the group", 3, house.addLayer('a', 2));
        house.remove(2);
        Check.thrown("the group that went", Check.INDEX, house, h -> h.addLayer('a', 2));
        Check.thrown("the layer that went with it", Check.INDEX, house, h -> h.setMask(3, true));
        Check.same("a number that was not given", 4, house.addLayer('a', 0));
    }

    private static void promise2LastState() {
        Palettehouse house = withOneRoomLeft();
        Check.same("a layer in the last state", 1, house.addLayer('p', -1));
        Check.same("the last state", 59, house.state());
        Check.thrown("no further one", Check.STATE, house, h -> h.addLayer('p', -1));
        for (int call = 0; call < 4; call++) {
            int made = call;
            Palettehouse other = withOneRoomLeft();
            Check.same("an edit that makes the last state", call == 3 ? 1 : 59, edited(other, made));
            Check.thrown("the same edit once more", Check.STATE, other, h -> edited(h, made));
        }
    }

    private static int edited(Palettehouse house, int call) {
        switch (call) {
            case 0:
                return house.setLook(0, 1, 'n', true);
            case 1:
                return house.fill(0, 0, 1, 1, 1, 1);
            case 2:
                return house.blur(0, 1);
            default:
                return house.select(0, 1, 1, 'r');
        }
    }

    private static void promise3Opacities() {
        Palettehouse house = filled(50, 255);
        for (int opacity : new int[] {0, 1, 127, 128, 254, 255}) {
            int states = house.states();
            Check.same("the state", states, house.setLook(0, opacity, 'n', true));
            pixel("the opacity " + opacity, opacity == 0 ? 0 : 50, opacity, house, 9, 9);
        }
    }

    /** Of all signs up to 255, and of some beyond them, just the seven ones. */
    private static void promise3Modes() {
        for (int sign = 0; sign < 65536; sign += sign < 256 ? 1 : 255) {
            char mode = (char) sign;
            Palettehouse house = filled(50, 255);
            if ("nmsadkl".indexOf(mode) >= 0) {
                Check.same("the mode " + mode, 3, house.setLook(0, 255, mode, true));
            } else {
                Check.thrown("no mode " + sign, Check.ARGUMENT, house, h -> h.setLook(0, 255, mode, true));
                Check.thrown("no kind of a change " + sign, sign == 'i' || sign == 't' ? Check.UNSUPPORTED : Check.ARGUMENT,
                        house, h -> h.setChange(0, mode, 0, 1));
            }
            if ("pga".indexOf(mode) < 0) {
                Check.thrown("no kind of a layer " + sign, Check.ARGUMENT, house, h -> h.addLayer(mode, -1));
            }
            if ("rasi".indexOf(mode) < 0) {
                Check.thrown("no way to select " + sign, Check.ARGUMENT, house, h -> h.select(0, 1, 1, mode));
            }
        }
    }

    private static void promise4Passing() {
        Palettehouse house = filled(100, 255);
        house.addLayer('g', -1);
        house.addLayer('a', 1);
        Check.same("closed as it was", 5, house.setPassing(1, false));
        pixel("a closed group", 100, 255, house, 0, 0);
        Check.same("passing", 6, house.setPassing(1, true));
        Check.same("passing as it was", 7, house.setPassing(1, true));
        pixel("a passing group", 155, 255, house, 0, 0);
        Check.same("closed again", 8, house.setPassing(1, false));
        pixel("a closed group again", 100, 255, house, 0, 0);
    }

    private static void promise5AnyNumbers() {
        Palettehouse house = filled(100, 255);
        house.addLayer('a', -1);
        int[] any = {Integer.MIN_VALUE, -1, 0, 255, 256, Integer.MAX_VALUE};
        for (int number : any) {
            house.setChange(1, 'i', number, number);
            pixel("'i' with any numbers", 155, 255, house, 0, 0);
            house.setChange(1, 't', 101, number);
            pixel("'t' with any second number", 0, 255, house, 0, 0);
            house.setChange(1, 't', 100, number);
            pixel("'t' with its first number", 255, 255, house, 0, 0);
        }
        for (int first : new int[] {0, 1, 99, 100, 253, 254}) {
            Check.thrown("'l' with equal numbers", Check.ARGUMENT, house, h -> h.setChange(1, 'l', first, first));
            house.setChange(1, 'l', first, first + 1);
            pixel("'l' with " + first + " and the next one", first < 100 ? 255 : 0, 255, house, 0, 0);
        }
        Check.thrown("'l' with equal numbers, the greatest", Check.ARGUMENT, house, h -> h.setChange(1, 'l', 255, 255));
        Check.thrown("'l' with a second number that is too great", Check.ARGUMENT, house, h -> h.setChange(1, 'l', 255, 256));
    }

    private static void promise6Offsets() {
        for (int y = -15; y <= 15; y += 15) {
            for (int x = -15; x <= 15; x += 15) {
                Palettehouse house = filled(50, 77);
                Check.same("the state", 3, house.setOffset(0, x, y));
                box("the offset " + x + ", " + y, house, 77, Math.max(0, x), Math.max(0, y), Math.min(15, 15 + x), Math.min(15, 15 + y));
            }
        }
        Palettehouse house = filled(50, 77);
        house.setOffset(0, 15, 15);
        house.setOffset(0, -1, 0);
        Check.same("an offset is told anew, not added", 77, house.alpha(0, 0));
        Check.same("its last column", 77, house.alpha(14, 15));
        Check.same("beside it", 0, house.alpha(15, 0));
    }

    private static void promise7LockAsItWas() {
        Palettehouse house = filled(50, 77);
        Check.same("not locked, as it was", 3, house.lock(0, false));
        house.fill(0, 0, 1, 1, 60, 88);
        pixel("not locked", 60, 88, house, 0, 0);
        Check.same("locked", 5, house.lock(0, true));
        Check.same("locked, as it was", 6, house.lock(0, true));
        house.fill(0, 0, 1, 1, 70, 99);
        pixel("locked", 70, 88, house, 0, 0);
        house.setMask(0, true);
        house.fillMask(0, 0, 1, 1, 0);
        Check.same("a mask is not locked", 0, house.alpha(0, 0));
    }

    /** Each layer to each place: the value is that of the highest one. */
    private static void promise8Places() {
        Palettehouse house = filled(10, 255);
        Check.same("the only place", 0, house.move(0, 0));
        Check.thrown("no second place", Check.ARGUMENT, house, h -> h.move(0, 1));
        for (int layer = 1; layer < 8; layer++) {
            house.addLayer('p', -1);
            house.fill(layer, 0, 16, 16, 10 + layer, 255);
        }
        Check.same("from the highest place to the lowest one", 7, house.move(7, 0));
        pixel("the one that was below it", 16, 255, house, 0, 0);
        Check.same("from the lowest place to the highest one", 0, house.move(7, 7));
        pixel("the highest one again", 17, 255, house, 0, 0);
        Check.thrown("no ninth place", Check.ARGUMENT, house, h -> h.move(7, 8));
        Check.same("to its own place", 7, house.move(7, 7));
        Check.same("from the second place to the last but one", 1, house.move(1, 6));
        Check.same("it is there", 6, house.move(1, 6));
        Check.same("those between moved down", 1, house.move(2, 1));
        Check.same("the last one did not", 7, house.move(7, 7));
        Check.same("the first one did not", 0, house.move(0, 0));
        house = new Palettehouse();
        house.addLayer('g', -1);
        house.addLayer('g', 0);
        house.addLayer('p', 1);
        house.addLayer('p', 1);
        Check.thrown("one group is outside of all", Check.ARGUMENT, house, h -> h.move(0, 1));
        Check.thrown("one group is in it", Check.ARGUMENT, house, h -> h.move(1, 1));
        Check.same("two layers are in that one", 0, house.move(2, 1));
        Check.thrown("no third one", Check.ARGUMENT, house, h -> h.move(2, 2));
        house.remove(3);
        Check.thrown("one is left in it", Check.ARGUMENT, house, h -> h.move(2, 1));
        Check.same("its place", 0, house.move(2, 0));
    }

    private static void promise9LastLayer() {
        Palettehouse house = filled(50, 255);
        Check.same("none is left", 0, house.remove(0));
        Check.thrown("it went", Check.INDEX, house, h -> h.remove(0));
        pixel("nothing is left", 0, 0, house, 0, 0);
        Check.same("it is there in the state ahead", 2, house.undo());
        pixel("as it was", 50, 255, house, 0, 0);
        house = new Palettehouse();
        house.addLayer('g', -1);
        Check.same("an empty group", 0, house.remove(0));
        house.go(1);
        for (int layer = 1; layer < 8; layer++) {
            house.addLayer(layer == 1 ? 'g' : 'p', layer < 4 ? 0 : layer < 6 ? 1 : -1);
        }
        Check.same("a group with all inside: three and two more", 2, house.remove(0));
        for (int layer = 0; layer < 6; layer++) {
            int gone = layer;
            Check.thrown("gone with it", Check.INDEX, house, h -> h.setMask(gone, true));
        }
        Check.same("one is left", 1, house.remove(6));
        Check.same("none is left", 0, house.remove(7));
    }

    private static void promise10Mask() {
        Palettehouse house = filled(50, 77);
        house.setMask(0, true);
        box("a mask that is 255 everywhere", house, 77, 0, 0, 15, 15);
        house.fillMask(0, 0, 16, 16, 0);
        Check.sameDouble("a mask that is 0 everywhere", 0, house.cover());
        house.setMask(0, true);
        Check.same("in place of the earlier one, at the first pixel", 77, house.alpha(0, 0));
        Check.same("at the last pixel", 77, house.alpha(15, 15));
        house.fillMask(0, 0, 16, 16, 0);
        house.setMask(0, false);
        Check.same("without it", 77, house.alpha(0, 0));
        house.setMask(0, true);
        Check.same("a new one is 255", 77, house.alpha(0, 0));
    }

    // ---- promises 11 to 15

    private static void promise11Boxes() {
        int[][] boxes = {
            {0, 1, 1, 0, 0, 0, 0}, {0, 16, 16, 0, 0, 15, 15}, {255, 1, 1, 15, 15, 15, 15}, {255, 16, 16, 15, 15, 15, 15},
            {15, 16, 1, 15, 0, 15, 0}, {15, 2, 16, 15, 0, 15, 15}, {240, 16, 16, 0, 15, 15, 15}, {240, 1, 2, 0, 15, 0, 15},
            {17, 14, 14, 1, 1, 14, 14}, {17, 15, 15, 1, 1, 15, 15}, {17, 16, 16, 1, 1, 15, 15}, {120, 7, 8, 8, 7, 14, 14},
        };
        for (int[] box : boxes) {
            Palettehouse house = Check.onePaintLayer();
            house.fill(0, box[0], box[1], box[2], 9, 77);
            box("a box of " + box[1] + " by " + box[2], house, 77, box[3], box[4], box[5], box[6]);
            house = filled(9, 255);
            house.setMask(0, true);
            house.fillMask(0, 0, 16, 16, 0);
            house.fillMask(0, box[0], box[1], box[2], 77);
            box("a box of a mask, " + box[1] + " by " + box[2], house, 77, box[3], box[4], box[5], box[6]);
        }
    }

    private static void promise11Levels() {
        Palettehouse house = Check.onePaintLayer();
        for (int value : new int[] {0, 1, 254, 255}) {
            for (int alpha : new int[] {0, 1, 254, 255}) {
                house.fill(0, 0, 1, 1, value, alpha);
                pixel("value " + value + ", alpha " + alpha, alpha == 0 ? 0 : value, alpha, house, 0, 0);
            }
        }
    }

    /** In promise11Boxes() there are the boxes; here, that neither the selection nor the offset nor a lock matters. */
    private static void promise12Boxes() {
        Palettehouse house = filled(9, 255);
        house.setMask(0, true);
        house.setOffset(0, 0, 1);
        house.lock(0, true);
        house.select(0, 16, 16, 's');
        house.fillMask(0, 255, 16, 16, 77);
        Check.same("the last pixel of the mask", 77, house.alpha(15, 15));
        Check.same("the pixel ahead of it", 255, house.alpha(14, 15));
        Check.same("the tile in which it is", 1 << 15, Check.tilesTouched(house, h -> h.fillMask(0, 255, 16, 16, 78)));
        Check.same("the tile of the first pixel", 1, Check.tilesTouched(house, h -> h.fillMask(0, 0, 4, 4, 78)));
        Check.same("all tiles", ALL, Check.tilesTouched(house, h -> h.fillMask(0, 0, 16, 16, 78)));
        Check.same("four tiles", 0x33, Check.tilesTouched(house, h -> h.fillMask(0, 0, 5, 5, 78)));
    }

    private static void promise12Levels() {
        Palettehouse house = filled(9, 255);
        house.setMask(0, true);
        for (int number : new int[] {0, 1, 127, 128, 254, 255}) {
            house.fillMask(0, 0, 1, 1, number);
            Check.same("the number " + number, number, house.alpha(0, 0));
        }
    }

    /** The pixels with an alpha, as numbers of places on end. */
    private static String places(Palettehouse house) {
        StringBuilder places = new StringBuilder();
        for (int place = 0; place < 256; place++) {
            if (house.alpha(place % 16, place / 16) > 0) {
                places.append(place).append(' ');
            }
        }
        return places.toString().trim();
    }

    private static void stroked(String due, int from, int to, int size, int spacing) {
        Palettehouse house = Check.onePaintLayer();
        house.stroke(0, from, to, size, spacing, 9, 255);
        String got = places(house);
        Check.isTrue("stroke from " + from + " to " + to + ": " + got + ", due is " + due, got.equals(due));
    }

    private static void promise13Steps() {
        stroked("0", 0, 0, 1, 1);
        stroked("255", 255, 255, 1, 9);
        stroked("0 1 2 3 4 5 6 7 8 9 10 11 12 13 14 15", 0, 15, 1, 1);
        stroked("0 16 32 48 64 80 96 112 128 144 160 176 192 208 224 240", 240, 0, 1, 1);
        stroked("0 17 34 51 68 85 102 119 136 153 170 187 204 221 238 255", 255, 0, 1, 1);
        stroked("15 30 45 60 75 90 105 120 135 150 165 180 195 210 225 240", 15, 240, 1, 1);
        // The last step is there if it can be divided by the spacing.
        stroked("0 9", 0, 9, 1, 9);
        stroked("0", 0, 8, 1, 9);
        stroked("0 9", 0, 10, 1, 9);
        stroked("0 5 10 15", 0, 15, 1, 5);
        stroked("0 8", 0, 15, 1, 8);
        stroked("7 15", 15, 0, 1, 8);
        // 1 over 2 steps is rounded toward 0 both ways: 0, 0, 1 and 1, 1, 0.
        stroked("0 1 18", 0, 18, 1, 1);
        stroked("0 17 18", 18, 0, 1, 1);
        // 3 over 4 steps: 0, 0, 1, 2, 3 from the first place on.
        stroked("0 1 18 35 52", 0, 52, 1, 1);
        stroked("0 17 34 51 52", 52, 0, 1, 1);
        // The steps are those of the greater distance: y by 4, x by 1.
        stroked("0 16 32 48 65", 0, 65, 1, 1);
        stroked("0 17 33 49 65", 65, 0, 1, 1);
    }

    private static void promise13Stamps() {
        stroked("0", 0, 0, 1, 9);
        stroked("0 1 2 3 16 17 18 19 32 33 34 35 48 49 50 51", 0, 0, 4, 1);
        stroked("255", 255, 255, 4, 1);
        stroked("254 255", 254, 254, 3, 1);
        stroked("15 31 47", 15, 15, 3, 9);
        stroked("13 14 15 29 30 31 45 46 47", 13, 13, 3, 1);
        Palettehouse house = Check.onePaintLayer();
        Check.same("the tile of the last pixel", 1 << 15, Check.tilesTouched(house, h -> h.stroke(0, 255, 255, 4, 1, 1, 1)));
        Check.same("no tile of the next row", 1 << 3, Check.tilesTouched(house, h -> h.stroke(0, 15, 15, 4, 1, 1, 1)));
        house.setOffset(0, 15, 15);
        Check.same("what is seen of a stroke", 1 << 15, Check.tilesTouched(house, h -> h.stroke(0, 0, 255, 4, 1, 1, 1)));
        Check.same("a stroke that is not seen", 0, Check.tilesTouched(house, h -> h.stroke(0, 1, 255, 4, 1, 1, 1)));
    }

    private static void promise13Levels() {
        for (int value : new int[] {0, 1, 254, 255}) {
            Palettehouse house = Check.onePaintLayer();
            house.stroke(0, 0, 0, 1, 1, value, 0);
            pixel("the opacity 0", 0, 0, house, 0, 0);
            house.stroke(0, 0, 0, 1, 1, value, 1);
            pixel("the opacity 1", value, 1, house, 0, 0);
            house.stroke(0, 1, 1, 1, 1, value, 254);
            pixel("the opacity 254", value, 254, house, 1, 0);
            house.stroke(0, 1, 1, 1, 1, 255 - value, 0);
            pixel("the opacity 0 on a pixel", value, 254, house, 1, 0);
            house.stroke(0, 1, 1, 1, 1, 255 - value, 255);
            pixel("the opacity 255 on a pixel", 255 - value, 255, house, 1, 0);
        }
    }

    /** Pixels around: 4, 6 and 9 by the radius 1; 9, 12, 15, 16, 20 and 25 by 2. */
    private static void promise14Corners() {
        int[][] places = {{0, 0, 4, 9}, {15, 0, 4, 9}, {0, 15, 4, 9}, {15, 15, 4, 9}, {1, 0, 6, 12}, {0, 14, 6, 12},
            {2, 0, 6, 15}, {15, 13, 6, 15}, {1, 1, 9, 16}, {14, 1, 9, 16}, {1, 2, 9, 20}, {7, 14, 9, 20}, {2, 2, 9, 25}, {13, 13, 9, 25}};
        for (int[] place : places) {
            for (int radius = 1; radius <= 2; radius++) {
                Palettehouse house = Check.onePaintLayer();
                house.fill(0, 16 * place[1] + place[0], 1, 1, 200, 255);
                house.blur(0, radius);
                int number = place[1 + radius];
                pixel("one of " + number, 200, (2 * 255 + number) / (2 * number), house, place[0], place[1]);
            }
        }
        Palettehouse house = filled(200, 77);
        for (int radius = 1; radius <= 2; radius++) {
            house.blur(0, radius);
            box("a blur of what is alike", house, 77, 0, 0, 15, 15);
            house = filled(200, 77);
        }
    }

    private static void promise14NoAlpha() {
        Palettehouse house = filled(200, 0);
        house.fill(0, 255, 1, 1, 90, 4);
        house.blur(0, 2);
        // From 13, 13 on d is 4, of 3 to 5 columns by 3 to 5 rows: (8 + 9) / 18 to (8 + 25) / 50, which is 0 with the value 90.
        long due = 31 * 7L;
        for (int place = 0; place < 256; place++) {
            boolean isNear = place % 16 >= 13 && place / 16 >= 13;
            due = 31 * (31 * due + (isNear ? 90 : 0));
        }
        for (int place = 0; place < 256; place++) {
            due = 31 * due + 255;
        }
        Check.same("values are 0 where no alpha is near", due, house.sum());
    }

    private static void promise15States() {
        Palettehouse house = Check.onePaintLayer();
        house.fill(0, 0, 16, 16, 50, 60);
        house.addLayer('g', -1);
        Check.thrown("the layer is not there in the state 0", Check.UNSUPPORTED, house, h -> h.paintFrom(0, 0, 0, 1));
        Check.same("the least state where it is", 4, house.paintFrom(0, 1, 0, 1));
        pixel("nothing from there", 0, 0, house, 0, 0);
        Check.thrown("a state that is not yet", Check.INDEX, house, h -> h.paintFrom(0, 5, 0, 1));
        Check.same("the last state, which is the present one", 5, house.paintFrom(0, 4, 0, 16));
        pixel("nothing changes", 0, 0, house, 0, 0);
        house.remove(0);
        Check.thrown("no layer now", Check.INDEX, house, h -> h.paintFrom(0, 5, 0, 1));
        house.go(3);
        Check.thrown("no layer there", Check.UNSUPPORTED, house, h -> h.paintFrom(0, 6, 0, 1));
        house.fill(0, 0, 16, 16, 70, 80);
        Check.same("from a state of another branch", 8, house.paintFrom(0, 5, 0, 2));
        pixel("the first pixel from there", 0, 0, house, 0, 0);
        pixel("another pixel from there", 50, 60, house, 1, 1);
        pixel("beside it", 70, 80, house, 2, 1);
    }

    private static void promise15Squares() {
        int[][] squares = {{0, 1, 0, 0, 0, 0}, {0, 16, 0, 0, 15, 15}, {255, 1, 15, 15, 15, 15}, {255, 16, 15, 15, 15, 15},
            {15, 16, 15, 0, 15, 15}, {240, 16, 0, 15, 15, 15}, {17, 15, 1, 1, 15, 15}, {17, 14, 1, 1, 14, 14}};
        for (int[] square : squares) {
            Palettehouse house = filled(9, 77);
            house.fill(0, 0, 16, 16, 0, 0);
            house.paintFrom(0, 2, square[0], square[1]);
            box("a square of " + square[1], house, 77, square[2], square[3], square[4], square[5]);
        }
        Palettehouse house = filled(9, 77);
        house.setOffset(0, -15, 15);
        Check.same("the tile of the one pixel that is seen", 1 << 12, Check.tilesTouched(house, h -> h.paintFrom(0, 2, 0, 16)));
        Check.same("no tile of those that are not seen", 0, Check.tilesTouched(house, h -> h.paintFrom(0, 2, 0, 15)));
    }

    // ---- promises 16 to 21

    private static int selectedAt(Palettehouse house, int place) {
        return house.selected(place % 16, place / 16);
    }

    private static void promise16Boxes() {
        int[][] boxes = {{0, 1, 1, 1}, {0, 16, 16, 256}, {255, 1, 1, 1}, {255, 16, 16, 1}, {15, 16, 1, 1}, {240, 1, 16, 1},
            {15, 1, 16, 16}, {240, 16, 1, 16}, {17, 16, 16, 225}, {17, 14, 14, 196}};
        for (int[] box : boxes) {
            Palettehouse house = new Palettehouse();
            Check.same("'r'", box[3], house.select(box[0], box[1], box[2], 'r'));
            Check.same("the first pixel", 255, selectedAt(house, box[0]));
            Check.same("'s' of the same", 0, house.select(box[0], box[1], box[2], 's'));
            Check.same("'a' of the same", box[3], house.select(box[0], box[1], box[2], 'a'));
            Check.same("'i' of all", box[3], house.select(0, 16, 16, 'i'));
            Check.same("'i' of the same", box[3], house.select(box[0], box[1], box[2], 'i'));
            Check.same("'i' of what others have", box[0] == 0 ? 1 : 0, house.select(0, 1, 1, 'i'));
            Check.same("'a' of all", 256, house.select(0, 16, 16, 'a'));
            Check.same("'s' of all but these", 256 - box[3], house.select(box[0], box[1], box[2], 's'));
        }
    }

    /** From a selection with numbers between 0 and 255. */
    private static void promise16Ways() {
        for (char way : "rasi".toCharArray()) {
            Palettehouse house = new Palettehouse();
            house.select(17, 1, 1, 'r');
            house.feather();
            // 28 from 0, 0 to 2, 2.
            house.select(18, 2, 1, way);
            int inside = way == 's' ? 0 : way == 'i' ? 28 : 255;
            int outside = way == 'r' || way == 'i' ? 0 : 28;
            Check.same("in the box, with a number, by " + way, inside, house.selected(2, 1));
            Check.same("in the box, without one, by " + way, way == 'i' ? 0 : inside, house.selected(3, 1));
            Check.same("outside, with a number, by " + way, outside, house.selected(1, 1));
            Check.same("outside, without one, by " + way, 0, house.selected(4, 1));
        }
    }

    private static void promise17Tolerances() {
        Palettehouse house = Check.onePaintLayer();
        int[] values = {0, 1, 99, 100, 101, 254, 255};
        for (int x = 0; x < values.length; x++) {
            house.fill(0, x, 1, 1, values[x], 1);
        }
        int[][] due = {{0, 0, 1}, {0, 1, 2}, {0, 98, 2}, {0, 99, 3}, {0, 254, 6}, {0, 255, 7}, {3, 0, 1}, {3, 1, 3}, {3, 98, 3},
            {3, 99, 4}, {3, 100, 5}, {3, 153, 5}, {3, 154, 6}, {3, 155, 7}, {6, 0, 1}, {6, 254, 6}, {6, 255, 7}};
        for (int[] row : due) {
            int count = house.selectLike(0, row[0], row[1], false);
            Check.same("from " + values[row[0]] + " by " + row[1], row[2], count);
            Check.same("the place itself", 255, house.selected(row[0], 0));
            Check.same("0 elsewhere", 0, house.selected(7, 0));
        }
    }

    private static void promise17Places() {
        Palettehouse house = Check.onePaintLayer();
        for (int place : new int[] {0, 15, 240, 255}) {
            house.fill(0, place, 1, 1, 50, 255);
        }
        for (int place : new int[] {0, 15, 240, 255}) {
            Check.same("the four corners", 4, house.selectLike(0, place, 0, false));
            Check.same("the corner alone", 1, house.selectLike(0, place, 0, true));
            Check.same("it is this one", 255, selectedAt(house, place));
        }
        house = filled(50, 255);
        Check.same("all", 256, house.selectLike(0, 255, 0, false));
        Check.same("all hang together", 256, house.selectLike(0, 0, 0, true));
        int[][] pairs = {{0, 1, 2}, {0, 16, 2}, {0, 17, 1}, {1, 16, 1}, {15, 16, 1}, {15, 31, 2}, {239, 240, 1}, {254, 255, 2},
            {239, 255, 2}, {238, 255, 1}, {0, 15, 1}, {0, 240, 1}, {0, 2, 1}, {0, 32, 1}};
        for (int[] pair : pairs) {
            house = Check.onePaintLayer();
            house.fill(0, pair[0], 1, 1, 50, 255);
            house.fill(0, pair[1], 1, 1, 50, 255);
            Check.same("with " + pair[0] + " from " + pair[1], pair[2], house.selectLike(0, pair[1], 0, true));
            Check.same("with " + pair[1] + " from " + pair[0], pair[2], house.selectLike(0, pair[0], 0, true));
        }
    }

    private static void promise17Offsets() {
        Palettehouse house = filled(50, 255);
        for (int x = -15; x <= 15; x += 15) {
            for (int y = -15; y <= 15; y += 15) {
                house.setOffset(0, x, y);
                int seen = (16 - Math.abs(x)) * (16 - Math.abs(y));
                int place = (x > 0 ? 15 : 0) + 16 * (y > 0 ? 15 : 0);
                Check.same("so many are seen", seen, house.selectLike(0, place, 0, false));
                Check.same("so many hang together", seen, house.selectLike(0, place, 255, true));
                Check.same("at the other corner none is seen", seen == 256 ? 256 : 0, house.selectLike(0, 255 - place, 255, x == 0));
            }
        }
    }

    private static void promise17NothingSeen() {
        Palettehouse house = filled(50, 0);
        Check.same("no alpha", 0, house.selectLike(0, 0, 255, false));
        Check.same("no alpha at the place where it begins", 0, house.selectLike(0, 0, 255, true));
        Check.same("none is selected", 0, house.selected(0, 0));
        house.invert();
        house.fill(0, 1, 1, 1, 50, 1);
        Check.same("no alpha at the place, but beside it", 0, house.selectLike(0, 0, 255, false));
        Check.same("the least alpha", 1, house.selectLike(0, 1, 0, false));
        Check.same("it does not hang together with the others", 1, house.selectLike(0, 1, 255, true));
    }

    private static void promise18Growing() {
        int[][] due = {{0, 4, 9, 16}, {15, 4, 9, 16}, {240, 4, 9, 16}, {255, 4, 9, 16}, {8, 6, 15, 28}, {1, 6, 12, 20}, {136, 9, 25, 49}};
        for (int[] row : due) {
            for (int by = 1; by <= 3; by++) {
                Palettehouse house = new Palettehouse();
                house.select(row[0], 1, 1, 'r');
                Check.same("from " + row[0] + " by " + by, row[by], house.grow(by));
            }
        }
        Palettehouse house = new Palettehouse();
        Check.same("all stay all", 256, house.grow(3));
        house.select(0, 16, 16, 's');
        Check.same("none stays none", 0, house.grow(3));
    }

    private static void promise18Shrinking() {
        int[][] due = {{0, 252, 247, 240}, {255, 252, 247, 240}, {136, 247, 231, 207}};
        for (int[] row : due) {
            for (int by = 1; by <= 3; by++) {
                Palettehouse house = new Palettehouse();
                house.select(row[0], 1, 1, 's');
                Check.same("from " + row[0] + " by -" + by, row[by], house.grow(-by));
            }
        }
        Palettehouse house = new Palettehouse();
        Check.same("all stay all: nothing is outside", 256, house.grow(-3));
        house.select(0, 16, 16, 's');
        Check.same("none stays none", 0, house.grow(-3));
        house.select(0, 3, 3, 'r');
        Check.same("what hangs together with the side", 4, house.grow(-1));
    }

    private static void promise19Feather() {
        int[][] due = {{0, 64}, {15, 64}, {240, 64}, {255, 64}, {7, 43}, {112, 43}, {127, 43}, {247, 43}, {136, 28}};
        for (int[] row : due) {
            Palettehouse house = new Palettehouse();
            house.select(row[0], 1, 1, 'r');
            house.feather();
            Check.same("the only one at " + row[0], row[1], selectedAt(house, row[0]));
            house.select(0, 16, 16, 'a');
            house.select(row[0], 1, 1, 's');
            house.feather();
            // (765 + 2) / 4, (1275 + 3) / 6, (2040 + 4) / 9.
            Check.same("all others at " + row[0], row[1] == 64 ? 191 : row[1] == 43 ? 213 : 227, selectedAt(house, row[0]));
        }
        Palettehouse house = new Palettehouse();
        Check.same("all stay all", 256, house.feather());
        Check.same("255 stays", 255, house.selected(0, 0));
        house.select(0, 16, 16, 's');
        Check.same("none stays none", 0, house.feather());
    }

    private static void promise20Invert() {
        Palettehouse house = new Palettehouse();
        Check.same("of all, none", 0, house.invert());
        Check.same("a number that was 255", 0, house.selected(15, 15));
        Check.same("of none, all", 256, house.invert());
        Check.same("a number that was 0", 255, house.selected(15, 15));
        house.select(0, 1, 1, 'r');
        house.feather();
        Check.same("numbers between 0 and 255 are greater than 0 both ways", 256, house.invert());
        Check.same("and back", 4, house.invert());
        Check.same("such a number", 64, house.selected(0, 0));
    }

    private static void promise21Selected() {
        for (int place : new int[] {0, 15, 240, 255}) {
            Palettehouse house = new Palettehouse();
            house.select(place, 1, 1, 'r');
            for (int other : new int[] {0, 15, 240, 255}) {
                Check.same("selected at " + other, other == place ? 255 : 0, selectedAt(house, other));
            }
        }
    }

    // ---- promises 22 to 30

    private static void promise22Undo() {
        Palettehouse house = withOneRoomLeft();
        house.invert();
        for (int state = 58; state >= 0; state--) {
            Check.same("one ahead", state, house.undo());
        }
        Check.thrown("none ahead of the state 0", Check.ELEMENT, house, h -> h.undo());
        for (int state = 1; state < 60; state++) {
            Check.same("one behind", state, house.redo(0));
        }
        Check.thrown("none behind the last one", Check.ELEMENT, house, h -> h.redo(0));
        Check.same("all states are there", 60, house.states());
    }

    private static void promise23Redo() {
        Palettehouse house = new Palettehouse();
        for (int state = 1; state < 60; state++) {
            house.invert();
            house.go(0);
        }
        for (int branch = 0; branch < 59; branch++) {
            Check.same("a branch", branch + 1, house.redo(branch));
            house.undo();
        }
        Check.thrown("no further branch", Check.ELEMENT, house, h -> h.redo(59));
        Check.thrown("no branch -1", Check.ELEMENT, house, h -> h.redo(-1));
        house.go(59);
        Check.thrown("no branch at all", Check.ELEMENT, house, h -> h.redo(0));
        house = new Palettehouse();
        house.invert();
        house.invert();
        house.go(1);
        house.go(0);
        house.invert();
        house.go(1);
        house.invert();
        Check.same("the second one behind the state 1 was made last", 1, house.undo());
        Check.same("the first one", 2, house.redo(0));
        house.undo();
        Check.same("the second one", 4, house.redo(1));
        house.go(0);
        Check.same("the second one behind the state 0", 3, house.redo(1));
    }

    private static void promise24Go() {
        Palettehouse house = withOneRoomLeft();
        house.invert();
        Check.same("from the last one", 59, house.go(0));
        Check.same("to the last one", 0, house.go(59));
        Check.same("to where it is", 59, house.go(59));
        Check.thrown("state 60", Check.INDEX, house, h -> h.go(60));
        Check.thrown("state -1", Check.INDEX, house, h -> h.go(-1));
        Check.same("it stayed there", 59, house.state());
    }

    private static void promise25And26States() {
        Palettehouse house = new Palettehouse();
        Check.same("the least number", 1, house.states());
        for (int states = 2; states <= 60; states++) {
            house.feather();
            Check.same("one more", states, house.states());
            Check.same("the last one is the present one", states - 1, house.state());
        }
        Check.thrown("one too many", Check.STATE, house, h -> h.feather());
        Check.same("the greatest number", 60, house.states());
        house.go(7);
        Check.same("the present one", 7, house.state());
        Check.same("all the same", 60, house.states());
    }

    /** Reckoned without bounds, and then taken as the last 64 bits. */
    private static void promise27SumGoesRound() {
        Palettehouse house = filled(255, 254);
        house.addLayer('g', -1);
        house.addLayer('p', 1);
        house.fill(2, 255, 1, 1, 253, 252);
        house.select(0, 1, 1, 's');
        BigInteger sum = BigInteger.valueOf(7);
        sum = with(sum, 0);
        for (int place = 0; place < 256; place++) {
            sum = with(with(sum, 255), 254);
        }
        sum = with(with(sum, 1), 2);
        for (int place = 0; place < 255; place++) {
            sum = with(with(sum, 0), 0);
        }
        sum = with(with(sum, 253), 252);
        sum = with(sum, 0);
        for (int place = 1; place < 256; place++) {
            sum = with(sum, 255);
        }
        Check.isTrue("it goes round", sum.bitLength() > 64);
        Check.same("a sum that goes round", sum.longValue(), house.sum());
    }

    private static BigInteger with(BigInteger sum, int number) {
        return sum.multiply(BigInteger.valueOf(31)).add(BigInteger.valueOf(number));
    }

    private static void promise27NothingThere() {
        Palettehouse house = new Palettehouse();
        BigInteger due = BigInteger.valueOf(7);
        for (int place = 0; place < 256; place++) {
            due = with(due, 255);
        }
        Check.same("no layer", due.longValue(), house.sum());
        house.addLayer('p', -1);
        house.remove(0);
        Check.same("no layer any more", due.longValue(), house.sum());
        house.select(0, 16, 16, 's');
        due = BigInteger.valueOf(7).multiply(BigInteger.valueOf(31).pow(256));
        Check.same("neither a layer nor a selection", due.longValue(), house.sum());
    }

    private static void promise28And29Records() {
        Palettehouse house = Check.onePaintLayer();
        for (int kept = 0; kept < 3; kept++) {
            Check.thrown("none is being recorded", Check.STATE, house, h -> h.stop());
            Check.same("so many are kept", kept, house.record());
            Check.thrown("one is being recorded", Check.STATE, house, h -> h.record());
            for (int edit = 0; edit < kept; edit++) {
                house.fill(0, 0, 1, 1, 1, 1);
            }
            Check.same("so many edits", kept, house.stop());
        }
        Check.thrown("three are kept", Check.STATE, house, h -> h.record());
        Check.thrown("none is being recorded then", Check.STATE, house, h -> h.stop());
        house = withOneRoomLeft();
        house.record();
        house.fill(0, 0, 1, 1, 1, 1);
        Check.thrown("an edit without room", Check.STATE, house, h -> h.fill(0, 0, 1, 1, 1, 1));
        Check.same("is not recorded", 1, house.stop());
        Check.same("one can record without room", 1, house.record());
        Check.same("nothing then", 0, house.stop());
        house = Check.onePaintLayer();
        house.record();
        while (house.states() < 60) {
            house.blur(0, 1);
        }
        Check.same("the longest record", 58, house.stop());
    }

    private static void promise30Rooms() {
        for (int room = 0; room <= 4; room++) {
            Palettehouse house = Check.onePaintLayer();
            house.record();
            house.fill(0, 0, 1, 1, 1, 1);
            house.stroke(0, 1, 1, 1, 1, 2, 255);
            house.blur(0, 1);
            house.stop();
            house.go(1);
            while (house.states() < 60 - room) {
                house.lock(0, false);
            }
            int before = house.state();
            int made = Math.min(room, 3);
            Check.same("with room for " + room, made, house.play(0, 0));
            Check.same("so many states", 60 - room + made, house.states());
            Check.same("the last one is the present one", room == 0 ? before : 59 - room + made, house.state());
        }
    }

    private static void promise30Records() {
        Palettehouse house = Check.onePaintLayer();
        house.addLayer('p', -1);
        for (int record = 0; record < 3; record++) {
            int next = record;
            Check.thrown("no such record yet", Check.INDEX, house, h -> h.play(next, 0));
            house.record();
            for (int edit = 0; edit < record; edit++) {
                house.fill(0, 16 * record + edit, 1, 1, 10 * record, 255);
            }
            house.stop();
        }
        house.go(2);
        Check.same("an empty record", 0, house.play(0, 1));
        Check.same("no state for it", 2, house.state());
        Check.same("the last record", 2, house.play(2, 1));
        Check.same("its last edit", 20, house.value(1, 2));
        Check.same("the record between", 1, house.play(1, 1));
        Check.same("its edit", 10, house.value(0, 1));
        Check.thrown("no fourth record", Check.INDEX, house, h -> h.play(3, 1));
    }

    // ---- promises 31 to 40

    private static void promise31To33Pixels() {
        Palettehouse house = Check.onePaintLayer();
        for (int place : new int[] {0, 15, 240, 255}) {
            house.fill(0, place, 1, 1, 100 + place % 100, 50 + place % 100);
        }
        for (int place : new int[] {0, 15, 240, 255}) {
            int x = place % 16;
            int y = place / 16;
            Check.same("value anew at " + place, 100 + place % 100, house.valueAnew(x, y));
            Check.same("value at " + place, 100 + place % 100, house.value(x, y));
            Check.same("alpha at " + place, 50 + place % 100, house.alpha(x, y));
        }
        Check.same("four tiles were looked at", 4, house.rendered());
        Check.same("beside a corner", 0, house.value(14, 15) + house.alpha(15, 14));
    }

    private static void promise34Limits() {
        for (int limit = 1; limit <= 16; limit++) {
            Palettehouse house = Check.onePaintLayer();
            Check.keepTiles(house);
            Check.same("16 at first", 16, house.setKept(limit));
            Check.same("the limit before", limit, house.setKept(16));
            // Those that were looked at last are kept.
            Check.same("the limit " + limit, ALL >> limit, Check.tilesNotKept(house));
        }
        Palettehouse house = Check.onePaintLayer();
        Check.same("the limit as it was", 16, house.setKept(16));
        house.value(0, 0);
        house.setKept(1);
        Check.same("as many as the limit stay", ALL & ~1, Check.tilesNotKept(house));
    }

    private static void promise35Rendered() {
        Palettehouse house = Check.onePaintLayer();
        Check.same("none so far", 0, house.rendered());
        Check.thrown("a pixel that is not there", Check.INDEX, house, h -> h.value(16, 0));
        Check.same("none by a look that is refused", 0, house.rendered());
        Check.keepTiles(house);
        Check.same("all", 16, house.rendered());
        Check.keepTiles(house);
        Check.same("none once more", 16, house.rendered());
        house.go(0);
        Check.keepTiles(house);
        Check.same("all once more", 32, house.rendered());
    }

    /** Rows of so many different values. */
    private static Palettehouse rows(int different) {
        Palettehouse house = filled(0, 255);
        for (int row = 1; row < different; row++) {
            house.fill(0, 16 * row, 16, 16, 10 * row, 255);
        }
        return house;
    }

    private static void promise36FewerValuesThanRanges() {
        for (int different = 1; different <= 9; different++) {
            Palettehouse house = rows(different);
            for (int values = 1; values <= 8; values++) {
                int ranges = Math.min(values, different);
                for (int rank = 0; rank < 8; rank++) {
                    int value = house.palette(values, rank);
                    Check.isTrue(rank + " of " + values + " of " + different + " answered " + value, rank < ranges ? value >= 0 : value == -1);
                    if (values >= different && rank < different) {
                        Check.same("each value is a range", 10 * rank, value);
                    }
                }
            }
        }
    }

    private static void promise36OneAndEight() {
        Palettehouse house = rows(8);
        // Rows 0 to 6, and nine rows of 70: 16 * 210 + 144 * 70 = 13440 of 256 pixels.
        Check.same("one value", 13440 / 256, house.palette(1, 0));
        Check.same("no second one", -1, house.palette(1, 1));
        Check.same("no eighth one", -1, house.palette(1, 7));
        Check.same("the least one of eight", 0, house.palette(8, 0));
        Check.same("the greatest one of eight", 70, house.palette(8, 7));
        // Two of the first seven rows make 32 * 25, whichever ones: the earliest ends leave 50 with 60.
        Check.same("seven: the first one is alone", 0, house.palette(7, 0));
        Check.same("seven: two are one range", 55, house.palette(7, 5));
        Check.same("seven: the last one", 70, house.palette(7, 6));
        Check.same("seven: no eighth one", -1, house.palette(7, 7));
        // An alpha of 0 makes the value 0, and that of 255 leaves it as it is.
        house = filled(200, 0);
        house.fill(0, 0, 16, 8, 255, 255);
        Check.same("no alpha", 0, house.palette(8, 0));
        Check.same("a full one", 255, house.palette(8, 1));
        Check.same("just these", -1, house.palette(8, 2));
    }

    /** Of several ways that are as good, the one whose first range ends earliest, then the second one, and so on. */
    private static void promise36Ties() {
        Palettehouse house = filled(0, 255);
        house.fill(0, 64, 16, 12, 10, 255);
        house.fill(0, 128, 16, 8, 20, 255);
        house.fill(0, 192, 16, 4, 30, 255);
        // 64 of each of 0, 10, 20 and 30. Three: one pair of neighbours, whichever one; the first range ends earliest with 0
        // alone, the second one with 10 alone.
        Check.same("the first of three", 0, house.palette(3, 0));
        Check.same("the second of three", 10, house.palette(3, 1));
        Check.same("the third of three", 25, house.palette(3, 2));
        Check.same("its error", 128 * 25, house.paletteError(3));
        // Two: both pairs make 256 * 25; one alone and three make 64 * 200, more.
        Check.same("the first of two", 5, house.palette(2, 0));
        Check.same("the second of two", 25, house.palette(2, 1));
        house = filled(0, 255);
        house.fill(0, 16, 16, 15, 10, 255);
        house.fill(0, 240, 16, 1, 20, 255);
        // 16 of 0, 224 of 10, 16 of 20. Values are cut: 10 with 20 makes 10 and 16 * 100, 0 with 10 makes 9 and 16 * 81 + 224.
        Check.same("the lesser error by values that are cut", 1520, house.paletteError(2));
        Check.same("0 with 10", 9, house.palette(2, 0));
        Check.same("20 alone", 20, house.palette(2, 1));
        house.fill(0, 0, 16, 6, 0, 255);
        house.fill(0, 160, 16, 6, 20, 255);
        // 96 of 0, 64 of 10, 96 of 20: 0 with 10 makes 4, and 10 with 20 makes 16, both with 96 * 16 + 64 * 36.
        Check.same("as good both ways", 3840, house.paletteError(2));
        Check.same("the first range ends earliest", 0, house.palette(2, 0));
        Check.same("then both others", 16, house.palette(2, 1));
        house = filled(0, 255);
        house.fill(0, 128, 16, 8, 2, 255);
        house.fill(0, 192, 16, 4, 4, 255);
        // 128 of 0, 64 of 2, 64 of 4: 2 with 4 makes the value 3 and the error 128; 0 with 2 makes 0 and 256.
        Check.same("the lesser error goes ahead of the earlier end", 128, house.paletteError(2));
        Check.same("the upper one", 3, house.palette(2, 1));
    }

    private static void promise37Errors() {
        for (int different = 1; different <= 9; different++) {
            Palettehouse house = rows(different);
            Check.isTrue("no error with as many values", different > 8 || house.paletteError(different) == 0);
            Check.isTrue("no error with more values", different > 7 || house.paletteError(8) == 0);
            Check.isTrue("an error with fewer values", different < 2 || house.paletteError(different - 1) > 0);
        }
        Palettehouse house = filled(255, 255);
        house.fill(0, 0, 16, 8, 0, 255);
        // The value is 127: 128 by 127 squared, and 128 by 128 squared.
        Check.same("the greatest error", 128 * 127 * 127 + 128 * 128 * 128, house.paletteError(1));
        Check.same("none of two", 0, house.paletteError(2));
    }

    private static void promise38Cover() {
        Palettehouse house = Check.onePaintLayer();
        Check.sameDouble("nothing", 0f, house.cover());
        house.fill(0, 255, 1, 1, 0, 1);
        Check.sameDouble("the least share", 1f / 65280f, house.cover());
        house.fill(0, 0, 16, 16, 0, 255);
        Check.sameDouble("the whole picture", 1f, house.cover());
        house.fill(0, 255, 1, 1, 0, 254);
        Check.sameDouble("nearly the whole picture", 65279f / 65280f, house.cover());
        Check.isTrue("that is less than 1", house.cover() < 1f);
    }

    private static void promise39Mean() {
        Palettehouse house = filled(255, 0);
        Check.thrown("all alphas are 0", Check.ARITHMETIC, house, h -> h.mean());
        house.fill(0, 255, 1, 1, 0, 1);
        Check.sameDouble("one alpha that is not 0, of the value 0", 0.0, house.mean());
        house.fill(0, 0, 1, 1, 255, 1);
        Check.sameDouble("the mean of 0 and 255", 127.5, house.mean());
        house.fill(0, 0, 16, 16, 255, 255);
        Check.sameDouble("the greatest mean", 255.0, house.mean());
        house.fill(0, 0, 1, 1, 254, 255);
        Check.sameDouble("a little less", 255.0 - 1.0 / 256, house.mean());
        house.remove(0);
        Check.thrown("no layer", Check.ARITHMETIC, house, h -> h.mean());
        Palettehouse faint = new Palettehouse();
        faint.addLayer('g', -1);
        faint.addLayer('p', 0);
        faint.setPassing(0, true);
        faint.setLook(0, 100, 'n', true);
        faint.fill(1, 0, 16, 16, 77, 1);
        Check.same("values, but no alpha", 77, faint.valueAnew(0, 0));
        Check.thrown("all alphas are 0 with values", Check.ARITHMETIC, faint, h -> h.mean());
        Check.sameDouble("no cover", 0, faint.cover());
        Check.same("no palette but 0", -1, faint.palette(8, 1));
    }

    private static void promise40Consistent() {
        Palettehouse house = filled(50, 255);
        Check.isTrue("without kept tiles", house.isConsistent());
        house.value(0, 0);
        Check.isTrue("with one", house.isConsistent());
        Check.keepTiles(house);
        Check.isTrue("with all", house.isConsistent());
        house.setKept(1);
        Check.isTrue("with the last one", house.isConsistent());
        house.fill(0, 255, 1, 1, 70, 255);
        Check.isTrue("with none", house.isConsistent());
        house.setKept(16);
        Check.keepTiles(house);
        house.setLook(0, 255, 'n', false);
        house.fill(0, 0, 16, 16, 90, 255);
        Check.keepTiles(house);
        house.blur(0, 1);
        Check.isTrue("behind edits of what is hidden", house.isConsistent());
        house.go(2);
        Check.isTrue("behind a way over them", house.isConsistent());
        Check.same("all tiles are touched on the way", ALL, Check.tilesNotKept(house));
    }
}
