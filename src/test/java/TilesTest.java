/** The tiles of the terms: which ones are kept, which ones an edit or a way between states touches. */
final class TilesTest {
    private static final int ALL = 0xFFFF;

    public static void main(String[] args) {
        tilesOfPixels();
        oneLook();
        editsOfLayers();
        hiddenLayers();
        shownAndHidden();
        hiddenAtAddingAndRemoving();
        ways();
        waysOverBranches();
        othersDoNotLook();
        Check.end();
    }

    private static void touches(String what, int due, Palettehouse house, java.util.function.Consumer<Palettehouse> call) {
        Check.same("tiles touched by " + what, due, Check.tilesTouched(house, call));
        Check.isTrue("not consistent behind " + what, house.isConsistent());
    }

    private static void tilesOfPixels() {
        for (int tile = 0; tile < 16; tile++) {
            for (int y = tile / 4 * 4; y < tile / 4 * 4 + 4; y++) {
                Palettehouse house = Check.onePaintLayer();
                for (int x = tile % 4 * 4; x < tile % 4 * 4 + 4; x++) {
                    int place = 16 * y + x;
                    touches("the pixel " + place, 1 << tile, house, h -> h.fill(0, place, 1, 1, 1, 1));
                }
            }
        }
    }

    private static void oneLook() {
        Palettehouse house = Check.onePaintLayer();
        house.value(3, 3);
        Check.same("one tile", 1, house.rendered());
        house.alpha(0, 0);
        house.value(2, 1);
        Check.same("the same tile", 1, house.rendered());
        house.alpha(4, 3);
        Check.same("another tile", 2, house.rendered());
        Check.same("the tiles that were not kept", ALL & ~3, Check.tilesNotKept(house));
        Check.same("all tiles were rendered once", 16, house.rendered());
    }

    private static Palettehouse oneOfEachKind() {
        Palettehouse house = Check.onePaintLayer();
        house.addLayer('g', -1);
        house.addLayer('a', -1);
        return house;
    }

    /** All touch all tiles, but for lock; also if they change nothing. */
    private static void editsOfLayers() {
        for (char kind : "pga".toCharArray()) {
            touches("addLayer " + kind, ALL, oneOfEachKind(), h -> h.addLayer(kind, -1));
            touches("addLayer in a group " + kind, ALL, oneOfEachKind(), h -> h.addLayer(kind, 1));
        }
        for (int layer = 0; layer < 3; layer++) {
            int edited = layer;
            touches("setLook as it was", ALL, oneOfEachKind(), h -> h.setLook(edited, 255, 'n', true));
            touches("move to its own place", ALL, oneOfEachKind(), h -> h.move(edited, edited));
            touches("setMask", ALL, oneOfEachKind(), h -> h.setMask(edited, true));
            touches("setMask where there is none", ALL, oneOfEachKind(), h -> h.setMask(edited, false));
            touches("remove", ALL, oneOfEachKind(), h -> h.remove(edited));
        }
        touches("setPassing as it was", ALL, oneOfEachKind(), h -> h.setPassing(1, false));
        touches("setPassing", ALL, oneOfEachKind(), h -> h.setPassing(1, true));
        touches("setChange as it was", ALL, oneOfEachKind(), h -> h.setChange(2, 'i', 0, 0));
        touches("setOffset as it was", ALL, oneOfEachKind(), h -> h.setOffset(0, 0, 0));
        touches("lock", 0, oneOfEachKind(), h -> h.lock(0, true));
        touches("lock as it was", 0, oneOfEachKind(), h -> h.lock(0, false));
        touches("blur", ALL, oneOfEachKind(), h -> h.blur(0, 1));
        touches("record and stop", 0, oneOfEachKind(), h -> {
            h.record();
            h.stop();
        });
        touches("a call that fails", 0, oneOfEachKind(),
                h -> Check.thrown("no group", Check.UNSUPPORTED, h, g -> g.setPassing(0, true)));
    }

    /** A group with a group with a paint layer and a change; one of the first three is not shown. */
    private static Palettehouse hiddenAt(int hidden) {
        Palettehouse house = new Palettehouse();
        house.addLayer('g', -1);
        house.addLayer('g', 0);
        house.addLayer('p', 1);
        house.addLayer('a', 1);
        house.setMask(2, true);
        house.setLook(hidden, 255, 'n', false);
        return house;
    }

    private static void hiddenLayers() {
        for (int hidden = 0; hidden < 3; hidden++) {
            touches("fill, hidden", 0, hiddenAt(hidden), h -> h.fill(2, 0, 16, 16, 9, 9));
            touches("stroke, hidden", 0, hiddenAt(hidden), h -> h.stroke(2, 0, 255, 4, 1, 9, 9));
            touches("blur, hidden", 0, hiddenAt(hidden), h -> h.blur(2, 1));
            touches("paintFrom, hidden", 0, hiddenAt(hidden), h -> h.paintFrom(2, 3, 0, 16));
            touches("fillMask, hidden", 0, hiddenAt(hidden), h -> h.fillMask(2, 0, 16, 16, 9));
            touches("setOffset, hidden", 0, hiddenAt(hidden), h -> h.setOffset(2, 3, 3));
            touches("setMask, hidden", 0, hiddenAt(hidden), h -> h.setMask(2, false));
            touches("move, hidden", 0, hiddenAt(hidden), h -> h.move(2, 1));
            touches("remove, hidden", 0, hiddenAt(hidden), h -> h.remove(2));
            int due = hidden < 2 ? 0 : ALL;
            touches("a layer beside a hidden one", due, hiddenAt(hidden), h -> h.setChange(3, 'i', 0, 0));
            touches("setPassing of the inner group", due, hiddenAt(hidden), h -> h.setPassing(1, true));
            touches("addLayer in the inner group", due, hiddenAt(hidden), h -> h.addLayer('p', 1));
            touches("remove of the inner group", due, hiddenAt(hidden), h -> h.remove(1));
            int dueOuter = hidden < 1 ? 0 : ALL;
            touches("setPassing of the outer group", dueOuter, hiddenAt(hidden), h -> h.setPassing(0, true));
            touches("addLayer in the outer group", dueOuter, hiddenAt(hidden), h -> h.addLayer('g', 0));
            touches("remove of the outer group", dueOuter, hiddenAt(hidden), h -> h.remove(0));
            touches("a layer outside of all", ALL, hiddenAt(hidden), h -> h.addLayer('p', -1));
        }
    }

    private static void shownAndHidden() {
        Palettehouse house = Check.onePaintLayer();
        house.addLayer('g', -1);
        house.addLayer('p', 1);
        touches("hiding", ALL, house, h -> h.setLook(0, 255, 'n', false));
        touches("a hidden layer's look", 0, house, h -> h.setLook(0, 10, 'm', false));
        touches("showing", ALL, house, h -> h.setLook(0, 10, 'm', true));
        touches("hiding the group", ALL, house, h -> h.setLook(1, 255, 'n', false));
        touches("hiding a layer in it", 0, house, h -> h.setLook(2, 255, 'n', false));
        touches("showing a layer in it", 0, house, h -> h.setLook(2, 255, 'n', true));
        touches("showing the group", ALL, house, h -> h.setLook(1, 255, 'n', true));
        touches("a layer that is shown without strength", 1, house, h -> {
            h.setLook(2, 0, 'n', true);
            Check.tilesNotKept(h);
            h.fill(2, 0, 1, 1, 9, 9);
        });
    }

    private static void hiddenAtAddingAndRemoving() {
        Palettehouse house = Check.onePaintLayer();
        house.addLayer('g', -1);
        house.setLook(1, 255, 'n', false);
        touches("addLayer in a hidden group", 0, house, h -> h.addLayer('p', 1));
        touches("remove in a hidden group", 0, house, h -> h.remove(2));
        touches("remove of a hidden group", 0, house, h -> h.remove(1));
        house.setLook(0, 255, 'n', false);
        touches("remove of a hidden layer", 0, house, h -> h.remove(0));
        touches("addLayer to nothing", ALL, house, h -> h.addLayer('p', -1));
        touches("remove of a layer that is shown", ALL, house, h -> h.remove(3));
        touches("going back over what touched nothing", 0, house, h -> {
            h.go(6);
            Check.tilesNotKept(h);
            h.go(3);
        });
    }

    private static void ways() {
        Palettehouse house = Check.onePaintLayer();
        house.fill(0, 0, 1, 1, 10, 255);
        house.fill(0, 4, 1, 1, 20, 255);
        house.lock(0, true);
        house.fill(0, 8, 1, 1, 30, 255);
        touches("undo", 4, house, h -> h.undo());
        touches("undo of a lock", 0, house, h -> h.undo());
        touches("undo once more", 2, house, h -> h.undo());
        touches("redo", 2, house, h -> h.redo(0));
        touches("a long way back", 3, house, h -> h.go(1));
        touches("a long way forth", 7, house, h -> h.go(5));
        touches("no way", 0, house, h -> h.go(5));
        touches("forth and back", 4, house, h -> {
            h.undo();
            h.redo(0);
        });
    }

    private static void waysOverBranches() {
        Palettehouse house = Check.onePaintLayer();
        house.fill(0, 0, 1, 1, 10, 255);
        house.fill(0, 4, 1, 1, 20, 255);
        house.go(2);
        house.fill(0, 8, 1, 1, 30, 255);
        house.fill(0, 12, 1, 1, 40, 255);
        touches("from branch to branch", 2 + 4 + 8, house, h -> h.go(3));
        touches("and back", 2 + 4 + 8, house, h -> h.go(5));
        touches("into the middle of one", 2 + 4, house, h -> {
            h.go(3);
            Check.tilesNotKept(h);
            h.go(4);
        });
        touches("to a state ahead", 4, house, h -> h.go(2));
        house.go(1);
        house.fill(0, 64, 1, 1, 50, 255);
        touches("past the state 2", 16 + 1 + 4 + 8, house, h -> h.go(5));
    }

    private static void othersDoNotLook() {
        Palettehouse house = Check.onePaintLayer();
        house.fill(0, 0, 16, 16, 10, 255);
        house.valueAnew(0, 0);
        house.palette(3, 0);
        house.paletteError(3);
        house.cover();
        house.mean();
        house.isConsistent();
        house.selected(0, 0);
        house.sum();
        Check.same("none of these looks at a tile", 0, house.rendered());
        house.setKept(2);
        house.value(0, 0);
        house.value(4, 0);
        for (int place = 0; place < 256; place++) {
            house.valueAnew(place % 16, place / 16);
        }
        house.cover();
        house.value(8, 0);
        house.value(4, 0);
        Check.same("nor does it count as a look", 3, house.rendered());
        house.value(0, 0);
        Check.same("the one that was looked at longest ago is gone", 4, house.rendered());
    }
}
