/** Promises 16 to 21: the selection. */
final class SelectionTest {
    public static void main(String[] args) {
        select();
        selectWrong();
        selectLike();
        selectLikeHanging();
        selectLikeByOffset();
        selectLikeWrong();
        grow();
        shrink();
        growWrong();
        feather();
        invert();
        selected();
        edits();
        Check.end();
    }

    private static void select() {
        Palettehouse house = new Palettehouse();
        Check.same("these alone", 6, house.select(2 * 16 + 14, 5, 3, 'r'));
        Check.same("in the box", 255, house.selected(15, 4));
        Check.same("outside of the box", 0, house.selected(13, 4));
        Check.same("not in the next row", 0, house.selected(0, 3));
        Check.same("these, too", 8, house.select(0, 2, 1, 'a'));
        Check.same("added", 255, house.selected(1, 0));
        Check.same("still there", 255, house.selected(14, 2));
        Check.same("without these", 5, house.select(2 * 16, 16, 1, 's') - 1);
        Check.same("taken away", 0, house.selected(15, 2));
        Check.same("of these alone", 4, house.select(2 * 16, 16, 14, 'i'));
        Check.same("not of these", 0, house.selected(0, 0));
        Check.same("of these", 255, house.selected(14, 3));
        house.select(17, 1, 1, 'r');
        house.feather();
        Check.same("numbers stay in the box of 'i'", 4, house.select(0, 2, 2, 'i'));
        Check.same("such a number", 28, house.selected(1, 1));
        Check.same("numbers outside of the box of 's' stay", 2, house.select(0, 2, 1, 's'));
        Check.same("such a number of 's'", 28, house.selected(1, 1));
        Check.same("numbers outside of the box of 'a' stay", 3, house.select(255, 1, 1, 'a'));
        Check.same("such a number of 'a'", 28, house.selected(1, 1));
        Check.same("all", 256, house.select(0, 16, 16, 'r'));
        Check.same("none", 0, house.select(0, 16, 16, 's'));
    }

    private static void selectWrong() {
        Palettehouse house = new Palettehouse();
        Check.thrown("place -1", Check.ARGUMENT, house, h -> h.select(-1, 1, 1, 'r'));
        Check.thrown("place 256", Check.ARGUMENT, house, h -> h.select(256, 1, 1, 'r'));
        Check.thrown("width 0", Check.ARGUMENT, house, h -> h.select(0, 0, 1, 'r'));
        Check.thrown("width 17", Check.ARGUMENT, house, h -> h.select(0, 17, 1, 'r'));
        Check.thrown("height 0", Check.ARGUMENT, house, h -> h.select(0, 1, 0, 'r'));
        Check.thrown("height 17", Check.ARGUMENT, house, h -> h.select(0, 1, 17, 'r'));
        Check.thrown("no such way", Check.ARGUMENT, house, h -> h.select(0, 1, 1, 'x'));
        Check.fullOfStates(house);
        Check.thrown("60 states", Check.STATE, house, h -> h.select(0, 1, 1, 'r'));
        Check.thrown("no such way at 60 states", Check.ARGUMENT, house, h -> h.select(0, 1, 1, 'x'));
    }

    /** Values 100 and 110 beside one another, 121 over a corner from there, 100 far off, 100 without alpha. */
    private static Palettehouse pixels() {
        Palettehouse house = new Palettehouse();
        house.addLayer('p', -1);
        house.fill(0, 17, 1, 1, 100, 255);
        house.fill(0, 18, 1, 1, 110, 1);
        house.fill(0, 2 * 16 + 3, 1, 1, 121, 255);
        house.fill(0, 255, 1, 1, 100, 7);
        house.lock(0, true);
        house.fill(0, 0, 1, 1, 100, 255);
        house.lock(0, false);
        return house;
    }

    private static void selectLike() {
        Palettehouse house = pixels();
        Check.same("the same value", 2, house.selectLike(0, 17, 0, false));
        Check.same("the last pixel", 255, house.selected(15, 15));
        Check.same("no other value", 0, house.selected(2, 1));
        Check.same("not without alpha", 0, house.selected(0, 0));
        Check.same("a tolerance that is too small", 2, house.selectLike(0, 17, 9, false));
        Check.same("a tolerance", 3, house.selectLike(0, 17, 10, false));
        Check.same("a tolerance downwards", 3, house.selectLike(0, 18, 10, false));
        Check.same("a wide tolerance", 4, house.selectLike(0, 17, 255, false));
        Check.same("no alpha at the place", 0, house.selectLike(0, 0, 255, false));
        Check.same("none is selected", 0, house.selected(1, 1));
        house.setLook(0, 0, 'n', false);
        Check.same("the picture, not what is shown of it", 2, house.selectLike(0, 17, 0, false));
    }

    private static void selectLikeHanging() {
        Palettehouse house = pixels();
        Check.same("alone", 1, house.selectLike(0, 17, 0, true));
        Check.same("the place itself", 255, house.selected(1, 1));
        Check.same("both beside one another", 2, house.selectLike(0, 17, 10, true));
        Check.same("not over a corner", 2, house.selectLike(0, 17, 255, true));
        Check.same("no alpha at the place", 0, house.selectLike(0, 0, 255, true));
        house.select(0, 16, 16, 'r');
        house.fill(0, 2 * 16 + 2, 1, 1, 90, 255);
        Check.same("over another one", 4, house.selectLike(0, 17, 21, true));
        Check.same("the tolerance is from the place alone", 3, house.selectLike(0, 2 * 16 + 2, 20, true));
        // A snake over the picture: rows joined at alternating ends.
        house.select(0, 16, 16, 'r');
        house.fill(0, 0, 16, 16, 1, 255);
        for (int y = 1; y < 16; y += 2) {
            house.fill(0, 16 * y, 16, 1, 1, 0);
            house.fill(0, 16 * y + (y % 4 == 1 ? 15 : 0), 1, 1, 1, 255);
        }
        Check.same("a long way", 136, house.selectLike(0, 15 * 16, 0, true));
        Check.same("not from one side to the other", 0, house.selected(0, 1));
        house.select(0, 16, 16, 'r');
        house.fill(0, 0, 16, 16, 1, 255);
        house.fill(0, 8, 1, 16, 1, 0);
        Check.same("the left half", 128, house.selectLike(0, 0, 0, true));
        Check.same("the right half", 112, house.selectLike(0, 15, 0, true));
    }

    private static void selectLikeByOffset() {
        Palettehouse house = pixels();
        house.setOffset(0, -1, 3);
        Check.same("no pixel is seen there", 0, house.selectLike(0, 17, 255, false));
        Check.same("seen by the offset", 3, house.selectLike(0, 4 * 16, 255, false));
        Check.same("the place where it is seen", 255, house.selected(0, 4));
        Check.same("outside of the whole picture", 0, house.selected(14, 15));
        Check.same("hanging by the offset", 2, house.selectLike(0, 4 * 16, 10, true));
        house.fill(0, 0, 16, 16, 5, 5);
        Check.same("just the pixels that are selected", 2, house.selectLike(0, 4 * 16 + 1, 0, true));
        house = new Palettehouse();
        house.addLayer('p', -1);
        house.fill(0, 0, 16, 16, 5, 5);
        house.setOffset(0, 0, 1);
        Check.same("all but a row", 240, house.selectLike(0, 255, 0, false));
        Check.same("not the first row", 0, house.selected(15, 0));
        house.setOffset(0, -15, -15);
        Check.same("one pixel", 1, house.selectLike(0, 0, 0, false));
        Check.same("none at the last place", 0, house.selectLike(0, 255, 255, true));
    }

    private static void selectLikeWrong() {
        Palettehouse house = new Palettehouse();
        house.addLayer('p', -1);
        house.addLayer('g', -1);
        Check.thrown("no such layer", Check.INDEX, house, h -> h.selectLike(2, -1, 0, true));
        Check.thrown("place -1", Check.ARGUMENT, house, h -> h.selectLike(0, -1, 0, true));
        Check.thrown("place 256", Check.ARGUMENT, house, h -> h.selectLike(0, 256, 0, true));
        Check.thrown("tolerance -1", Check.ARGUMENT, house, h -> h.selectLike(0, 0, -1, false));
        Check.thrown("tolerance 256", Check.ARGUMENT, house, h -> h.selectLike(0, 0, 256, false));
        Check.thrown("tolerance 256 of a group", Check.ARGUMENT, house, h -> h.selectLike(1, 0, 256, false));
        Check.thrown("a group", Check.UNSUPPORTED, house, h -> h.selectLike(1, 0, 0, false));
        Check.fullOfStates(house);
        Check.thrown("60 states", Check.STATE, house, h -> h.selectLike(0, 0, 0, false));
        Check.thrown("a group at 60 states", Check.UNSUPPORTED, house, h -> h.selectLike(1, 0, 0, false));
    }

    private static void grow() {
        Palettehouse house = new Palettehouse();
        house.select(5 * 16 + 5, 1, 1, 'r');
        Check.same("by 1", 9, house.grow(1));
        Check.same("a corner of it", 255, house.selected(6, 6));
        Check.same("beside it", 0, house.selected(7, 6));
        house.select(5 * 16 + 5, 1, 1, 'r');
        Check.same("by 2", 25, house.grow(2));
        house.select(5 * 16 + 5, 1, 1, 'r');
        Check.same("by 3", 49, house.grow(3));
        house.select(0, 1, 1, 'r');
        Check.same("at a corner of the picture", 16, house.grow(3));
        Check.same("not at the next side", 0, house.selected(15, 0));
        house.select(5 * 16 + 5, 1, 1, 'r');
        house.feather();
        house.select(5 * 16 + 9, 1, 1, 'a');
        house.grow(1);
        Check.same("the greatest one", 28, house.selected(3, 3));
        Check.same("the greatest one of both", 28, house.selected(7, 4));
        Check.same("the greater one", 255, house.selected(8, 4));
    }

    private static void shrink() {
        Palettehouse house = new Palettehouse();
        house.select(2 * 16 + 2, 7, 7, 'r');
        Check.same("by 1", 25, house.grow(-1));
        Check.same("inside", 255, house.selected(3, 3));
        Check.same("no more", 0, house.selected(2, 3));
        Check.same("by 2", 1, house.grow(-2));
        Check.same("the middle", 255, house.selected(5, 5));
        house.select(0, 7, 7, 'r');
        Check.same("by 3 at a corner of the picture", 16, house.grow(-3));
        house.select(0, 16, 16, 'r');
        Check.same("all stay all", 256, house.grow(-3));
        house.select(5 * 16 + 5, 1, 1, 's');
        house.feather();
        house.grow(-1);
        Check.same("the least one", (8 * 255 + 4) / 9, house.selected(3, 3));
        Check.same("not the least one", 255, house.selected(2, 3));
    }

    private static void growWrong() {
        Palettehouse house = new Palettehouse();
        for (int by : new int[] {0, 4, -4, Integer.MIN_VALUE, Integer.MAX_VALUE}) {
            Check.thrown("by " + by, Check.ARGUMENT, house, h -> h.grow(by));
        }
        Check.fullOfStates(house);
        Check.thrown("60 states", Check.STATE, house, h -> h.grow(1));
        Check.thrown("by 0 at 60 states", Check.ARGUMENT, house, h -> h.grow(0));
    }

    private static void feather() {
        Palettehouse house = new Palettehouse();
        house.select(0, 1, 1, 'r');
        Check.same("a corner", 4, house.feather());
        Check.same("one of four: (255 + 2) / 4", 64, house.selected(0, 0));
        Check.same("one of six: (255 + 3) / 6", 43, house.selected(1, 0));
        Check.same("one of nine: (255 + 4) / 9", 28, house.selected(1, 1));
        Check.same("once more", 9, house.feather());
        Check.same("the four: (64 + 43 + 43 + 28 + 2) / 4", 45, house.selected(0, 0));
        Check.same("one of nine: (28 + 4) / 9", 3, house.selected(2, 2));
        Check.same("a number of 1 counts, too", 15, house.feather());
        Check.same("one of nine: (8 + 3 + 4) / 9", 1, house.selected(3, 2));
        Check.same("one of nine: (3 + 4) / 9", 0, house.selected(3, 3));
        house.select(0, 16, 16, 'r');
        Check.same("all", 256, house.feather());
        Check.same("all stay", 255, house.selected(9, 9));
        house.select(0, 16, 16, 's');
        Check.same("none", 0, house.feather());
        Check.fullOfStates(house);
        Check.thrown("60 states", Check.STATE, house, h -> h.feather());
    }

    private static void invert() {
        Palettehouse house = new Palettehouse();
        Check.same("none", 0, house.invert());
        Check.same("all", 256, house.invert());
        house.select(17, 1, 1, 'r');
        Check.same("all but one", 255, house.invert());
        Check.same("the one", 0, house.selected(1, 1));
        Check.same("another one", 255, house.selected(0, 1));
        house.invert();
        house.feather();
        Check.same("a number above 0 everywhere", 256, house.invert());
        Check.same("255 minus 28", 227, house.selected(2, 2));
        Check.fullOfStates(house);
        Check.thrown("60 states", Check.STATE, house, h -> h.invert());
    }

    private static void selected() {
        Palettehouse house = new Palettehouse();
        house.select(3 * 16 + 9, 1, 1, 'r');
        Check.same("x and y", 255, house.selected(9, 3));
        Check.same("not y and x", 0, house.selected(3, 9));
        for (int wrong : new int[] {-1, 16, Integer.MAX_VALUE, Integer.MIN_VALUE}) {
            Check.thrown("x " + wrong, Check.INDEX, house, h -> h.selected(wrong, 0));
            Check.thrown("y " + wrong, Check.INDEX, house, h -> h.selected(0, wrong));
        }
    }

    /** Each one makes a state, which can be left and come to again, and touches no tile. */
    private static void edits() {
        Palettehouse house = pixels();
        int first = house.state();
        Check.same("select touches no tile", 0, Check.tilesTouched(house, h -> h.select(0, 9, 9, 'r')));
        Check.same("selectLike touches no tile", 0, Check.tilesTouched(house, h -> h.selectLike(0, 17, 9, true)));
        Check.same("grow touches no tile", 0, Check.tilesTouched(house, h -> h.grow(1)));
        Check.same("feather touches no tile", 0, Check.tilesTouched(house, h -> h.feather()));
        Check.same("invert touches no tile", 0, Check.tilesTouched(house, h -> h.invert()));
        Check.same("five states", first + 5, house.state());
        Check.same("inverted", 255, house.selected(15, 15));
        Check.same("going back touches no tile", 0, Check.tilesTouched(house, h -> h.go(first)));
        Check.same("the selection of that state", 255, house.selected(1, 1));
        house.go(first + 1);
        Check.same("the selection of the first one", 0, house.selected(15, 15));
    }
}
