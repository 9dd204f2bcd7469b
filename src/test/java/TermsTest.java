/** The edges that the document's terms name, in their order. */
final class TermsTest {
    public static void main(String[] args) {
        pixels();
        eightLayersAtOnce();
        thirtyNumbersOverAllStates();
        noGroupIsDeeperThanTwo();
        layersAtFirst();
        editsLeaveTheRest();
        products();
        modesAtTheirEdges();
        sumsOfTheModeA();
        outsideOfThePicture();
        noAlphaAbove();
        leastAndFullAlphas();
        emptyClosedGroup();
        passingGroupWithoutAlpha();
        changeWithoutAlpha();
        changesAtTheirNumbers();
        changeInPart();
        selectionAtFirst();
        selectionOf0And255();
        selectionOfHalf();
        selectionOutsideOfTheWholePicture();
        pixelsWithoutAlphaChange();
        sixtyStates();
        stateBehindTheBeginning();
        sixteenTilesKept();
        oldestTileGoes();
        leastLimit();
        editThatChangesNothing();
        wayThereAndBack();
        wayToTheSameState();
        Check.end();
    }

    private static Palettehouse twoLayers(int below, int alphaBelow, int above, int alphaAbove) {
        Palettehouse house = Check.onePaintLayer();
        house.addLayer('p', -1);
        house.fill(0, 0, 16, 16, below, alphaBelow);
        house.fill(1, 0, 16, 16, above, alphaAbove);
        return house;
    }

    private static void pixel(String what, int value, int alpha, Palettehouse house, int x, int y) {
        Check.same("value of " + what, value, house.value(x, y));
        Check.same("alpha of " + what, alpha, house.alpha(x, y));
        Check.same("value anew of " + what, value, house.valueAnew(x, y));
    }

    // ---- pictures and layers

    private static void pixels() {
        Palettehouse house = Check.onePaintLayer();
        int[] places = {0, 15, 240, 255};
        for (int place : places) {
            pixel("a corner at first", 0, 0, house, place % 16, place / 16);
            house.fill(0, place, 1, 1, place, 255 - place);
        }
        // The pixels of the first and the last corner are 0 with 255, and 255 with 0, which shows nothing.
        pixel("the first corner", 0, 255, house, 0, 0);
        pixel("the second corner", 15, 240, house, 15, 0);
        pixel("the third corner", 240, 15, house, 0, 15);
        pixel("the last corner", 0, 0, house, 15, 15);
    }

    private static void eightLayersAtOnce() {
        for (char kind : "pga".toCharArray()) {
            Palettehouse house = new Palettehouse();
            for (int number = 0; number < 8; number++) {
                Check.same("the layer " + kind, number, house.addLayer(kind, -1));
            }
            Check.thrown("a ninth layer beside " + kind, Check.STATE, house, h -> h.addLayer(kind, -1));
            Check.same("seven are left", 7, house.remove(0));
            Check.same("an eighth one again", 8, house.addLayer(kind, -1));
            Check.thrown("a ninth one again", Check.STATE, house, h -> h.addLayer(kind, -1));
        }
        Palettehouse house = new Palettehouse();
        house.addLayer('g', -1);
        house.addLayer('g', 0);
        for (int number = 2; number < 8; number++) {
            Check.same("a layer in a group", number, house.addLayer('p', number % 2));
        }
        Check.thrown("those in groups count", Check.STATE, house, h -> h.addLayer('p', -1));
        Check.thrown("in a group, too", Check.STATE, house, h -> h.addLayer('a', 1));
        Check.same("all go with the group", 0, house.remove(0));
        for (int number = 8; number < 16; number++) {
            Check.same("eight more", number, house.addLayer('p', -1));
        }
        Check.thrown("no more than eight more", Check.STATE, house, h -> h.addLayer('p', -1));
    }

    private static void thirtyNumbersOverAllStates() {
        Palettehouse house = new Palettehouse();
        for (int number = 0; number < 29; number++) {
            Check.same("a number over all states", number, house.addLayer('p', -1));
            house.undo();
        }
        Check.thrown("one that is refused takes no number", Check.ARGUMENT, house, h -> h.addLayer('x', -1));
        Check.same("the last number", 29, house.addLayer('p', -1));
        Check.thrown("no further one", Check.STATE, house, h -> h.addLayer('p', -1));
        house.undo();
        Check.thrown("no further one where no layer is", Check.STATE, house, h -> h.addLayer('p', -1));
        house.go(1);
        Check.same("the numbers in a state are those that it had", 0, house.remove(0));
        Check.thrown("none is given again", Check.STATE, house, h -> h.addLayer('p', -1));
    }

    private static void noGroupIsDeeperThanTwo() {
        Palettehouse house = new Palettehouse();
        Check.same("a group outside of all", 0, house.addLayer('g', -1));
        Check.same("a group in it", 1, house.addLayer('g', 0));
        Check.thrown("a group in that one", Check.UNSUPPORTED, house, h -> h.addLayer('g', 1));
        Check.same("a paint layer in that one", 2, house.addLayer('p', 1));
        Check.same("a change in that one", 3, house.addLayer('a', 1));
        Check.same("a second group in the first one", 4, house.addLayer('g', 0));
    }

    /** 255, 'n', shown; without an offset, not locked; a closed group; the change 'i'; without a mask. */
    private static void layersAtFirst() {
        Palettehouse house = twoLayers(200, 255, 100, 60);
        pixel("a paint layer at first", (60 * 100 + 195 * 200 + 127) / 255, 255, house, 0, 0);
        house.fill(1, 0, 1, 1, 100, 255);
        pixel("one that is not locked", 100, 255, house, 0, 0);
        house.addLayer('g', -1);
        house.addLayer('a', 2);
        pixel("a closed group at first", 100, 255, house, 0, 0);
        house.addLayer('p', 2);
        house.fill(4, 0, 16, 16, 7, 90);
        pixel("a group that is shown, with its whole strength", (90 * 7 + 165 * 100 + 127) / 255, 255, house, 0, 0);
        house.remove(4);
        house.setPassing(2, true);
        pixel("the change 'i'", 155, 255, house, 0, 0);
        for (int layer = 0; layer < 4; layer++) {
            int asked = layer;
            Check.thrown("no mask at first", Check.UNSUPPORTED, house, h -> h.fillMask(asked, 0, 1, 1, 1));
        }
    }

    /** What an edit does not tell of a layer stays as it was. */
    private static void editsLeaveTheRest() {
        paintLayerStays();
        groupStays();
        changeStays();
    }

    private static void paintLayerStays() {
        Palettehouse house = twoLayers(200, 255, 100, 255);
        house.setMask(1, true);
        house.fillMask(1, 0, 16, 16, 128);
        house.setLook(1, 255, 'd', true);
        house.setOffset(1, 3, 4);
        house.lock(1, true);
        house.fill(1, 255, 1, 1, 1, 1);
        house.stroke(1, 255, 255, 1, 1, 1, 1);
        house.paintFrom(1, 4, 254, 1);
        house.fillMask(1, 255, 1, 1, 1);
        house.move(1, 1);
        house.invert();
        house.invert();
        // |100 - 200| by the strength 128: 128 * 100 + 127 * 200 = 38200 of 255.
        pixel("over the picture", 150, 255, house, 9, 9);
        pixel("at the offset", 150, 255, house, 3, 4);
        pixel("left of the offset", 200, 255, house, 2, 4);
        pixel("above the offset", 200, 255, house, 3, 3);
        house.fill(1, 0, 1, 1, 200, 0);
        pixel("the alpha stays: it is locked", 100, 255, house, 3, 4);
        house.setLook(1, 255, 'n', false);
        house.lock(1, false);
        house.setOffset(1, 0, 0);
        house.setMask(1, false);
        house.fill(1, 0, 16, 16, 9, 255);
        pixel("what is not shown", 200, 255, house, 9, 9);
    }

    private static void groupStays() {
        Palettehouse house = Check.onePaintLayer();
        house.fill(0, 0, 16, 16, 200, 255);
        house.addLayer('g', -1);
        house.addLayer('a', 1);
        house.setPassing(1, true);
        house.setMask(1, true);
        house.setLook(1, 128, 'm', true);
        house.fillMask(1, 255, 1, 1, 1);
        house.move(1, 1);
        // 55 by the strength 128: 128 * 55 + 127 * 200 = 32440 of 255.
        pixel("a passing group", 127, 255, house, 0, 0);
        house.setPassing(1, false);
        house.setPassing(1, true);
        pixel("as it was", 127, 255, house, 0, 0);
        house.setMask(1, false);
        house.setLook(1, 255, 'n', true);
        pixel("still passing", 55, 255, house, 0, 0);
    }

    private static void changeStays() {
        Palettehouse house = Check.onePaintLayer();
        house.fill(0, 0, 16, 16, 200, 255);
        house.addLayer('a', -1);
        house.setChange(1, 'l', 150, 250);
        house.setMask(1, true);
        house.fillMask(1, 255, 1, 1, 1);
        house.move(1, 1);
        house.setLook(1, 255, 'm', true);
        pixel("50 * 255 / 100", 127, 255, house, 0, 0);
        house.setLook(1, 128, 'm', true);
        // 128 * 127 + 127 * 200 + 127 = 41783 of 255.
        pixel("in part", 163, 255, house, 0, 0);
        house.setChange(1, 'l', 150, 201);
        // 50 * 255 / 51 = 250; 128 * 250 + 127 * 200 + 127 = 57527 of 255.
        pixel("another change, in part as it was", 225, 255, house, 0, 0);
    }

    // ---- rendering

    /** The value is the product of both numbers, by the mode 'm' on a full alpha. */
    private static void products() {
        int[][] due = {{0, 0, 0}, {0, 255, 0}, {255, 255, 255}, {1, 127, 0}, {1, 128, 1}, {1, 255, 1}, {254, 255, 254},
            {254, 254, 253}, {128, 128, 64}, {2, 63, 0}, {2, 64, 1}, {51, 128, 26}, {51, 127, 25}};
        for (int[] row : due) {
            for (int i = 0; i < 2; i++) {
                Palettehouse house = twoLayers(row[i], 255, row[1 - i], 255);
                house.setLook(1, 255, 'm', true);
                pixel("the product of " + row[i] + " and " + row[1 - i], row[2], 255, house, 0, 0);
                house = Check.onePaintLayer();
                house.fill(0, 0, 1, 1, 9, row[i]);
                house.setLook(0, row[1 - i], 'n', true);
                Check.same("the product of alpha " + row[i] + " and opacity " + row[1 - i], row[2], house.alpha(0, 0));
                house.setLook(0, row[i], 'n', true);
                house.fill(0, 0, 1, 1, 9, 255);
                house.setMask(0, true);
                house.fillMask(0, 0, 1, 1, row[1 - i]);
                Check.same("the product of opacity " + row[i] + " and mask " + row[1 - i], row[2], house.alpha(0, 0));
            }
        }
    }

    private static void modesAtTheirEdges() {
        int[][] pairs = {{0, 0}, {0, 255}, {255, 0}, {255, 255}, {100, 100}, {1, 254}, {254, 1}};
        String modes = "nmsadkl";
        int[][] due = {
            {0, 255, 0, 255, 100, 254, 1},
            {0, 0, 0, 255, 39, 1, 1},
            {0, 255, 255, 255, 161, 254, 254},
            {0, 255, 255, 255, 200, 255, 255},
            {0, 255, 255, 0, 0, 253, 253},
            {0, 0, 0, 255, 100, 1, 1},
            {0, 255, 255, 255, 100, 254, 254},
        };
        for (int i = 0; i < pairs.length; i++) {
            Palettehouse house = twoLayers(pairs[i][0], 255, pairs[i][1], 255);
            for (int mode = 0; mode < modes.length(); mode++) {
                house.setLook(1, 255, modes.charAt(mode), true);
                pixel(pairs[i][1] + " on " + pairs[i][0] + " in mode " + modes.charAt(mode), due[mode][i], 255, house, 0, 0);
            }
        }
    }

    private static void sumsOfTheModeA() {
        for (int above = 0; above < 3; above++) {
            Palettehouse house = twoLayers(155, 255, 99 + above, 255);
            house.setLook(1, 255, 'a', true);
            pixel("155 and " + (99 + above), above == 0 ? 254 : 255, 255, house, 0, 0);
        }
    }

    private static void outsideOfThePicture() {
        Palettehouse house = twoLayers(200, 255, 100, 255);
        house.setOffset(1, 15, -15);
        pixel("the one pixel that is seen", 100, 255, house, 15, 0);
        pixel("nothing beside it", 200, 255, house, 14, 0);
        pixel("nothing below it", 200, 255, house, 15, 1);
        pixel("nothing at the other corner", 200, 255, house, 0, 15);
        house.setOffset(1, -1, 1);
        pixel("the last column that is seen", 100, 255, house, 14, 1);
        pixel("no next row from the left", 200, 255, house, 15, 1);
        pixel("no row from below", 200, 255, house, 14, 0);
        pixel("the last row", 100, 255, house, 0, 15);
    }

    /** If a is 0, nothing changes, also by an opacity or a mask of 0. */
    private static void noAlphaAbove() {
        for (char mode : "nmsadkl".toCharArray()) {
            Palettehouse house = twoLayers(200, 77, 100, 0);
            house.setLook(1, 255, mode, true);
            pixel("an alpha of 0 in mode " + mode, 200, 77, house, 0, 0);
            house.fill(1, 0, 1, 1, 100, 255);
            house.setLook(1, 0, mode, true);
            pixel("an opacity of 0 in mode " + mode, 200, 77, house, 0, 0);
            house.setLook(1, 255, mode, true);
            house.setMask(1, true);
            house.fillMask(1, 0, 1, 1, 0);
            pixel("a mask of 0 in mode " + mode, 200, 77, house, 0, 0);
            house.fillMask(1, 0, 1, 1, 255);
            house.setLook(1, 1, mode, true);
            house.fill(1, 0, 1, 1, 100, 127);
            pixel("a product that is 0 in mode " + mode, 200, 77, house, 0, 0);
        }
    }

    private static void leastAndFullAlphas() {
        // a = 1, ab = 255: d = 255 + 254 * 255 = 65025, n = 255 * 255 of 255 on 0, and 65025 * 3 / 130050 = 1.
        pixel("a trace of 255 on a full 0", 1, 255, twoLayers(0, 255, 255, 1), 0, 0);
        // n = 255 * 127 = 32385: (64770 + 65025) / 130050 = 0.
        pixel("a trace of 127 on a full 0", 0, 255, twoLayers(0, 255, 127, 1), 0, 0);
        pixel("a trace on nothing", 255, 1, twoLayers(0, 0, 255, 1), 0, 0);
        // a = 1, ab = 1: d = 509, n = 254 * 255 + 255 = 65025 of 255 on 0: (130050 + 509) / 1018 = 128.
        pixel("a trace of 255 on a trace of 0", 128, 2, twoLayers(0, 1, 255, 1), 0, 0);
        // The same with 0 on 255: n = 254 * 255 = 64770: (129540 + 509) / 1018 = 127.
        pixel("a trace of 0 on a trace of 255", 127, 2, twoLayers(255, 1, 0, 1), 0, 0);
        pixel("full on full", 100, 255, twoLayers(200, 255, 100, 255), 0, 0);
        pixel("full on a trace", 100, 255, twoLayers(200, 1, 100, 255), 0, 0);
        // a = 254, ab = 255: d = 65025, n = 254 * 255 * 0 + 255 * 255: 1 as above.
        pixel("nearly full 0 on a full 255", 1, 255, twoLayers(255, 255, 0, 254), 0, 0);
        // a = 254, ab = 254: d = 64770 + 254 = 65024: (130048 + 255) / 510 = 255.
        pixel("nearly full on nearly full", 9, 255, twoLayers(9, 254, 9, 254), 0, 0);
    }

    private static void emptyClosedGroup() {
        Palettehouse house = Check.onePaintLayer();
        house.fill(0, 0, 16, 16, 200, 77);
        house.addLayer('g', -1);
        house.setLook(1, 255, 'm', true);
        pixel("an empty closed group", 200, 77, house, 0, 0);
        house.addLayer('g', 1);
        pixel("a group with an empty one", 200, 77, house, 0, 0);
        house.addLayer('a', 1);
        pixel("a change on nothing inside", 200, 77, house, 0, 0);
        house.addLayer('p', 1);
        pixel("an empty picture inside", 200, 77, house, 0, 0);
        house.setPassing(1, true);
        pixel("a passing group, with a change inside", 55, 77, house, 0, 0);
    }

    /** A value 77 with the alpha 0, by a passing group that is too faint: t ar = 100 is no half of 255. */
    private static Palettehouse valueWithoutAlpha() {
        Palettehouse house = new Palettehouse();
        house.addLayer('g', -1);
        house.setPassing(0, true);
        house.addLayer('p', 0);
        house.fill(1, 0, 16, 16, 77, 1);
        house.setLook(0, 100, 'n', true);
        return house;
    }

    private static void passingGroupWithoutAlpha() {
        Palettehouse house = valueWithoutAlpha();
        pixel("a value without alpha", 77, 0, house, 0, 0);
        house.setLook(0, 127, 'n', true);
        // (2 * 127 + 255) / 510 = 0, and (2 * 128 + 255) / 510 = 1.
        pixel("just too faint", 77, 0, house, 0, 0);
        house.setLook(0, 128, 'n', true);
        pixel("not too faint", 77, 1, house, 0, 0);
        house.setLook(0, 0, 'n', true);
        pixel("without strength", 0, 0, house, 0, 0);
        for (int opacity : new int[] {0, 128, 255}) {
            house = valueWithoutAlpha();
            house.addLayer('g', -1);
            house.setLook(2, opacity, 'n', true);
            pixel("a closed group leaves it as it is", 77, 0, house, 0, 0);
            house.setPassing(2, true);
            pixel("d is 0: value and alpha become 0", 0, 0, house, 0, 0);
        }
    }

    private static void changeWithoutAlpha() {
        Palettehouse house = valueWithoutAlpha();
        house.addLayer('a', -1);
        pixel("where the alpha is 0, nothing changes", 77, 0, house, 0, 0);
        house.setChange(2, 't', 0, 0);
        pixel("nothing by 't'", 77, 0, house, 0, 0);
        house.setChange(2, 'l', 0, 1);
        pixel("nothing by 'l'", 77, 0, house, 0, 0);
        house.setLook(0, 128, 'n', true);
        pixel("an alpha of 1 is enough", 255, 1, house, 0, 0);
    }

    private static Palettehouse changed(int value) {
        Palettehouse house = Check.onePaintLayer();
        house.fill(0, 0, 1, 1, value, 255);
        house.addLayer('a', -1);
        return house;
    }

    private static void isChangedTo(int due, int value, char kind, int first, int second) {
        Palettehouse house = changed(value);
        house.setChange(1, kind, first, second);
        pixel(value + " by '" + kind + "' with " + first + " and " + second, due, 255, house, 0, 0);
    }

    private static void changesAtTheirNumbers() {
        isChangedTo(255, 0, 'i', 0, 0);
        isChangedTo(0, 255, 'i', 0, 0);
        isChangedTo(0, 99, 't', 100, 0);
        isChangedTo(255, 100, 't', 100, 0);
        isChangedTo(255, 101, 't', 100, 0);
        isChangedTo(255, 0, 't', 0, 0);
        isChangedTo(0, 0, 't', 1, 0);
        isChangedTo(0, 254, 't', 255, 0);
        isChangedTo(255, 255, 't', 255, 0);
        isChangedTo(0, 99, 'l', 100, 110);
        isChangedTo(0, 100, 'l', 100, 110);
        isChangedTo(25, 101, 'l', 100, 110);
        isChangedTo(229, 109, 'l', 100, 110);
        isChangedTo(255, 110, 'l', 100, 110);
        isChangedTo(255, 111, 'l', 100, 110);
        isChangedTo(0, 0, 'l', 0, 255);
        isChangedTo(1, 1, 'l', 0, 255);
        isChangedTo(254, 254, 'l', 0, 255);
        isChangedTo(255, 255, 'l', 0, 255);
        isChangedTo(0, 0, 'l', 0, 1);
        isChangedTo(255, 1, 'l', 0, 1);
        isChangedTo(0, 254, 'l', 254, 255);
        isChangedTo(255, 255, 'l', 254, 255);
    }

    private static void changeInPart() {
        Palettehouse house = changed(0);
        int[][] due = {{0, 0}, {1, 1}, {128, 128}, {254, 254}, {255, 255}};
        for (int[] row : due) {
            house.setLook(1, row[0], 'm', true);
            pixel("0 made 255 with the strength " + row[0], row[1], 255, house, 0, 0);
        }
        // 127 made 128: by the strength t it is 127 * 255 + t, plus 127.
        house = changed(127);
        house.setLook(1, 127, 'n', true);
        pixel("less than a half", 127, 255, house, 0, 0);
        house.setLook(1, 128, 'n', true);
        pixel("more than a half", 128, 255, house, 0, 0);
        house = changed(200);
        // (1 * 55 + 254 * 200 + 127) / 255 = 199, as 145 is more than a half of 255; 128 of 254 and 1 of 1 make 128.
        house.setLook(1, 1, 'n', true);
        pixel("200 made 55 with the strength 1", 199, 255, house, 0, 0);
    }

    // ---- selection

    private static void selectionAtFirst() {
        Palettehouse house = new Palettehouse();
        for (int place = 0; place < 256; place++) {
            Check.same("selected at first", 255, house.selected(place % 16, place / 16));
        }
    }

    private static void selectionOf0And255() {
        Palettehouse house = Check.onePaintLayer();
        int[] levels = {0, 1, 127, 128, 254, 255};
        for (int i = 0; i < levels.length; i++) {
            house.fill(0, i, 1, 16, levels[i], levels[i]);
        }
        long before = house.sum();
        int selected = house.state();
        house.select(0, 16, 16, 's');
        house.fill(0, 0, 16, 16, 99, 99);
        house.select(0, 16, 16, 'r');
        Check.same("with 0 all stay as they were", before, house.sum());
        house.go(selected);
        for (int level : levels) {
            house.fill(0, 0, 16, 16, level, 255 - level);
            Palettehouse other = Check.onePaintLayer();
            other.fill(0, 0, 16, 16, level, 255 - level);
            Check.same("with 255 all are the new ones", other.sum(), house.sum());
        }
    }

    /** 1 in place of 0, and 0 in place of 1: the number of the selection decides at 128. */
    private static void selectionOfHalf() {
        for (int selected = 127; selected <= 128; selected++) {
            Palettehouse house = Check.onePaintLayer();
            house.fill(0, 5, 1, 1, 1, 1);
            house.select(0, 1, 16, 'r');
            house.feather();
            if (selected == 127) {
                house.invert();
            }
            Check.same("the number", selected, house.selected(0, 5));
            house.setOffset(0, -4, 5);
            house.fill(0, 4, 1, 1, 1, 1);
            house.setOffset(0, -5, 5);
            house.fill(0, 5, 1, 1, 0, 0);
            house.setOffset(0, 0, 0);
            Check.same("1 in place of 0 by " + selected, selected - 127, house.alpha(4, 0));
            Check.same("0 in place of 1 by " + selected, 128 - selected, house.alpha(5, 0));
        }
    }

    private static void selectionOutsideOfTheWholePicture() {
        Palettehouse house = Check.onePaintLayer();
        house.setOffset(0, 15, 0);
        house.fill(0, 0, 16, 16, 9, 99);
        house.setOffset(0, 0, 0);
        pixel("the column that was seen", 9, 99, house, 0, 7);
        pixel("the next column", 0, 0, house, 1, 7);
        house.setOffset(0, 0, -15);
        house.stroke(0, 240, 255, 1, 1, 33, 255);
        house.stroke(0, 0, 15, 1, 1, 44, 255);
        house.setOffset(0, 0, 0);
        pixel("the row that was seen", 33, 255, house, 15, 15);
        pixel("the row that was not seen", 0, 0, house, 15, 0);
        pixel("a pixel that was not seen", 9, 99, house, 0, 0);
    }

    /** The sum of a workshop with one paint layer whose picture has this pixel everywhere, with all selected. */
    private static long sumOf(int value, int alpha) {
        long sum = 31 * 7L;
        for (int place = 0; place < 256; place++) {
            sum = 31 * (31 * sum + value) + alpha;
        }
        for (int place = 0; place < 256; place++) {
            sum = 31 * sum + 255;
        }
        return sum;
    }

    private static void pixelsWithoutAlphaChange() {
        Palettehouse house = Check.onePaintLayer();
        house.lock(0, true);
        house.fill(0, 0, 16, 16, 60, 255);
        Check.same("the value changes, the alpha of a locked layer stays", sumOf(60, 0), house.sum());
        house.stroke(0, 0, 0, 1, 1, 60, 255);
        Check.same("by a stroke, too", sumOf(60, 0), house.sum());
        house.blur(0, 1);
        Check.same("a blur of no alpha makes the value 0", sumOf(0, 0), house.sum());
        house.lock(0, false);
        house.fill(0, 0, 16, 16, 70, 0);
        Check.same("a fill with the alpha 0", sumOf(70, 0), house.sum());
        house.blur(0, 2);
        Check.same("a blur of it", sumOf(0, 0), house.sum());
    }

    // ---- states

    private static void sixtyStates() {
        Palettehouse house = new Palettehouse();
        for (int state = 1; state < 60; state++) {
            house.invert();
            Check.same("the number of a state", state, house.state());
            if (state % 7 == 0) {
                house.go(state / 2);
            }
        }
        Check.same("sixty states", 60, house.states());
        for (int state : new int[] {59, 0, 28}) {
            house.go(state);
            Check.thrown("a state more behind " + state, Check.STATE, house, h -> h.invert());
            Check.thrown("a layer more behind " + state, Check.STATE, house, h -> h.addLayer('p', -1));
        }
    }

    private static void stateBehindTheBeginning() {
        Palettehouse house = Check.onePaintLayer();
        house.setMask(0, true);
        house.go(0);
        Check.thrown("no layer is in the state 0", Check.INDEX, house, h -> h.setMask(0, true));
        Check.same("a layer behind the state 0", 1, house.addLayer('p', -1));
        Check.same("its state is numbered as it was made", 3, house.state());
        Check.same("ahead of it is the state 0", 0, house.undo());
        Check.same("the first one behind it", 1, house.redo(0));
        house.undo();
        Check.same("the second one behind it", 3, house.redo(1));
    }

    // ---- tiles

    private static void sixteenTilesKept() {
        Palettehouse house = Check.onePaintLayer();
        Check.same("none is kept at first", 0xFFFF, Check.tilesNotKept(house));
        Check.same("all are kept", 0, Check.tilesNotKept(house));
        house.setKept(15);
        // The first one went; each look at the next one drops the one after it.
        Check.same("none is kept when it is looked at", 0xFFFF, Check.tilesNotKept(house));
    }

    private static void oldestTileGoes() {
        Palettehouse house = Check.onePaintLayer();
        house.setKept(3);
        int[] looks = {0, 1, 2, 0, 3, 0, 2, 1, 3};
        // By turns kept: 0, 01, 012, 120, 203, 230, 302, 021, 213.
        int[] due = {1, 2, 3, 3, 4, 4, 4, 5, 6};
        for (int i = 0; i < looks.length; i++) {
            house.value(4 * looks[i], 0);
            Check.same("the tiles that were rendered by the look " + i, due[i], house.rendered());
        }
    }

    private static void leastLimit() {
        Palettehouse house = Check.onePaintLayer();
        house.setKept(1);
        house.value(0, 0);
        house.alpha(3, 3);
        Check.same("the one is kept", 1, house.rendered());
        house.value(4, 3);
        house.value(3, 3);
        Check.same("just one is kept", 3, house.rendered());
        house.fill(0, 0, 1, 1, 1, 1);
        house.value(0, 0);
        Check.same("it went by an edit", 4, house.rendered());
    }

    private static void editThatChangesNothing() {
        Palettehouse house = Check.onePaintLayer();
        Check.same("a fill with what is there", 1, Check.tilesTouched(house, h -> h.fill(0, 0, 4, 4, 0, 0)));
        house.select(0, 16, 16, 's');
        Check.same("a stroke where nothing is selected", 0x401, Check.tilesTouched(house, h -> h.stroke(0, 0, 255, 1, 9, 9, 9)));
        house.setMask(0, true);
        Check.same("a mask with what is there", 0x8000, Check.tilesTouched(house, h -> h.fillMask(0, 255, 16, 16, 255)));
        Check.same("the same picture", 1, Check.tilesTouched(house, h -> h.paintFrom(0, h.state(), 0, 4)));
    }

    private static void wayThereAndBack() {
        Palettehouse house = Check.onePaintLayer();
        house.fill(0, 0, 4, 4, 50, 255);
        Check.same("undo and redo", 1, Check.tilesTouched(house, h -> {
            h.undo();
            h.redo(0);
        }));
        Check.same("go, and go back", 1, Check.tilesTouched(house, h -> {
            h.go(1);
            h.go(2);
        }));
    }

    private static void wayToTheSameState() {
        Palettehouse house = Check.onePaintLayer();
        house.fill(0, 0, 16, 16, 50, 255);
        Check.same("no edit is on the way", 0, Check.tilesTouched(house, h -> h.go(h.state())));
        house.go(0);
        Check.same("no edit is ahead of the state 0", 0, Check.tilesTouched(house, h -> h.go(0)));
    }
}
