/** Promises 22 to 30: the tree of states, the sum of one, and records. */
final class StatesTest {
    public static void main(String[] args) {
        undo();
        redo();
        go();
        states();
        sum();
        record();
        recordWrong();
        stop();
        play();
        playBounds();
        playWrong();
        Check.end();
    }

    private static void undo() {
        Palettehouse house = Check.onePaintLayer();
        house.fill(0, 0, 16, 16, 50, 255);
        house.fill(0, 0, 16, 16, 60, 255);
        Check.same("back by one", 2, house.undo());
        Check.same("the picture ahead of it", 50, house.value(0, 0));
        Check.same("back once more", 1, house.undo());
        Check.same("an edit behind it", 4, house.setOffset(0, 1, 1));
        Check.same("back to the state ahead, not the number ahead", 1, house.undo());
        Check.same("back to the first one", 0, house.undo());
        Check.thrown("no layer is there", Check.INDEX, house, h -> h.setMask(0, true));
        Check.thrown("nothing is ahead", Check.ELEMENT, house, h -> h.undo());
        Check.same("all states are kept", 5, house.states());
    }

    private static void redo() {
        Palettehouse house = Check.onePaintLayer();
        for (int value = 10; value < 40; value += 10) {
            house.go(1);
            house.fill(0, 0, 16, 16, value, 255);
        }
        Check.thrown("nothing is behind", Check.ELEMENT, house, h -> h.redo(0));
        for (int branch = 2; branch >= 0; branch--) {
            house.undo();
            Check.same("a branch", 2 + branch, house.redo(branch));
            Check.same("its picture", 10 + 10 * branch, house.value(0, 0));
        }
        house.go(1);
        Check.thrown("branch 3", Check.ELEMENT, house, h -> h.redo(3));
        Check.thrown("branch -1", Check.ELEMENT, house, h -> h.redo(-1));
        Check.thrown("a great branch", Check.ELEMENT, house, h -> h.redo(Integer.MAX_VALUE));
        Check.same("back to the first one", 0, house.undo());
        Check.same("just the states behind it", 1, house.redo(0));
        house.undo();
        Check.thrown("not those behind these", Check.ELEMENT, house, h -> h.redo(1));
    }

    private static void go() {
        Palettehouse house = Check.onePaintLayer();
        house.fill(0, 0, 16, 16, 50, 255);
        house.select(0, 1, 1, 'r');
        Check.same("to the first one", 3, house.go(0));
        Check.same("its selection", 255, house.selected(5, 5));
        Check.same("forth again", 0, house.go(3));
        Check.same("the picture there", 50, house.value(5, 5));
        Check.same("the selection there", 0, house.selected(5, 5));
        Check.same("to where it is", 3, house.go(3));
        house.go(1);
        house.setMask(0, true);
        house.fillMask(0, 0, 16, 16, 9);
        house.lock(0, true);
        Check.same("to another branch", 6, house.go(2));
        house.fill(0, 0, 16, 16, 60, 200);
        Check.same("neither a mask nor a lock is there", 200, house.alpha(0, 0));
        house.go(6);
        house.fill(0, 0, 16, 16, 60, 200);
        Check.same("both are there", 0, house.alpha(0, 0));
        Check.thrown("state -1", Check.INDEX, house, h -> h.go(-1));
        Check.thrown("a state too far", Check.INDEX, house, h -> h.go(9));
    }

    private static void states() {
        Palettehouse house = Check.onePaintLayer();
        Check.same("state 1", 1, house.state());
        Check.same("two states", 2, house.states());
        house.undo();
        Check.same("state 0", 0, house.state());
        Check.same("still two states", 2, house.states());
        Check.fullOfStates(house);
        Check.same("sixty states", 60, house.states());
        Check.same("the last one", 59, house.state());
        Check.thrown("a state more", Check.STATE, house, h -> h.invert());
        house.go(0);
        Check.thrown("a state more elsewhere", Check.STATE, house, h -> h.invert());
        Check.thrown("a layer more", Check.STATE, house, h -> h.addLayer('p', -1));
        Check.same("one can still go", 0, house.go(1));
    }

    private static long selectionSum(long sum, int number) {
        long added = sum;
        for (int i = 0; i < 256; i++) {
            added = 31 * added + number;
        }
        return added;
    }

    private static long pictureSum(long sum, int firstValue, int firstAlpha, int value, int alpha) {
        long added = 31 * (31 * sum + firstValue) + firstAlpha;
        for (int i = 1; i < 256; i++) {
            added = 31 * (31 * added + value) + alpha;
        }
        return added;
    }

    private static void sum() {
        Palettehouse house = new Palettehouse();
        Check.same("sum of nothing", selectionSum(7, 255), house.sum());
        house.addLayer('g', -1);
        house.addLayer('p', -1);
        house.addLayer('p', 0);
        house.addLayer('a', -1);
        house.fill(1, 0, 16, 16, 3, 4);
        house.fill(1, 0, 1, 1, 1, 2);
        long due = pictureSum(31 * (31 * 7L) + 1, 1, 2, 3, 4);
        long dueSecond = 31 * pictureSum(31 * due + 2, 0, 0, 0, 0) + 3;
        Check.same("sum of layers", selectionSum(dueSecond, 255), house.sum());
        house.move(1, 0);
        house.setLook(1, 0, 'm', false);
        house.setMask(1, true);
        house.setOffset(1, 5, 5);
        Check.same("order and looks do not matter", selectionSum(dueSecond, 255), house.sum());
        house.remove(0);
        house.select(0, 16, 16, 's');
        due = pictureSum(31 * 7L + 1, 1, 2, 3, 4);
        Check.same("sum of those that exist", selectionSum(31 * due + 3, 0), house.sum());
        house.go(0);
        Check.same("sum of the state 0", selectionSum(7, 255), house.sum());
    }

    private static void record() {
        Palettehouse house = Check.onePaintLayer();
        for (int kept = 0; kept < 3; kept++) {
            Check.same("records that are kept", kept, house.record());
            house.fill(0, 0, 1, 1, 1, 1);
            Check.same("edits of a record", 1, house.stop());
        }
        Check.thrown("3 are kept", Check.STATE, house, h -> h.record());
    }

    private static void recordWrong() {
        Palettehouse house = Check.onePaintLayer();
        house.record();
        Check.thrown("one is being recorded", Check.STATE, house, h -> h.record());
        house.undo();
        Check.thrown("also in another state", Check.STATE, house, h -> h.record());
    }

    private static void stop() {
        Palettehouse house = Check.onePaintLayer();
        Check.thrown("none is being recorded", Check.STATE, house, h -> h.stop());
        house.record();
        Check.same("no edit", 0, house.stop());
        Check.thrown("none is being recorded any more", Check.STATE, house, h -> h.stop());
        house.record();
        house.setMask(0, true);
        house.fill(0, 0, 1, 1, 1, 1);
        house.fillMask(0, 0, 1, 1, 1);
        house.stroke(0, 0, 5, 1, 1, 1, 1);
        house.paintFrom(0, 1, 0, 1);
        house.invert();
        house.blur(0, 1);
        house.setLook(0, 1, 'n', true);
        Check.thrown("an edit that fails", Check.ARGUMENT, house, h -> h.fill(0, -1, 1, 1, 1, 1));
        Check.thrown("an edit of no layer", Check.INDEX, house, h -> h.blur(1, 1));
        Check.same("fill, stroke and blur alone", 3, house.stop());
        house.record();
        house.fill(0, 0, 1, 1, 1, 1);
        house.go(0);
        house.go(1);
        house.fill(0, 0, 1, 1, 1, 1);
        Check.same("over states", 2, house.stop());
    }

    private static void play() {
        Palettehouse house = Check.onePaintLayer();
        house.addLayer('p', -1);
        house.record();
        house.fill(0, 17, 3, 3, 50, 200);
        house.stroke(0, 0, 64, 2, 3, 90, 100);
        house.blur(0, 2);
        house.fill(1, 255, 1, 1, 7, 7);
        house.stop();
        house.record();
        house.fill(0, 0, 16, 16, 11, 12);
        house.stop();
        house.go(2);
        house.fill(1, 17, 3, 3, 50, 200);
        house.stroke(1, 0, 64, 2, 3, 90, 100);
        house.blur(1, 2);
        house.fill(1, 255, 1, 1, 7, 7);
        long due = house.sum();
        int before = house.states();
        house.go(2);
        Check.same("four edits", 4, house.play(0, 1));
        Check.same("four states", before + 4, house.states());
        Check.same("with the layer in place of its own", due, house.sum());
        Check.same("the state ahead of the last edit", house.states() - 2, house.undo());
        house.lock(1, true);
        house.setOffset(1, 2, 2);
        house.select(0, 8, 8, 'r');
        int state = house.state();
        house.fill(1, 0, 16, 16, 11, 12);
        due = house.sum();
        house.go(state);
        Check.same("one edit", 1, house.play(1, 1));
        Check.same("with the selection, the offset and the lock of now", due, house.sum());
        house.record();
        Check.same("what is played is not recorded", 0, house.stop());
        Check.same("nothing is played", 0, house.play(2, 0));
    }

    private static void playBounds() {
        Palettehouse house = Check.onePaintLayer();
        house.record();
        for (int i = 0; i < 10; i++) {
            house.fill(0, i, 1, 1, 255, 255);
        }
        house.stop();
        while (house.states() < 56) {
            house.lock(0, false);
        }
        house.fill(0, 0, 16, 16, 1, 255);
        Check.same("tiles of what is played", 1,
                Check.tilesTouched(house, h -> Check.same("room for three", 3, h.play(0, 0))));
        Check.same("the last state", 59, house.state());
        Check.same("the third one was made", 255, house.value(2, 0));
        Check.same("the fourth one was not", 1, house.value(3, 0));
        Check.same("room for none", 0, house.play(0, 0));
        Check.same("tiles of what was played, gone back over", 1, Check.tilesTouched(house, h -> h.go(56)));
    }

    private static void playWrong() {
        Palettehouse house = Check.onePaintLayer();
        house.addLayer('g', -1);
        Check.thrown("no record", Check.INDEX, house, h -> h.play(0, 0));
        house.record();
        house.fill(0, 0, 1, 1, 1, 1);
        Check.thrown("not kept yet", Check.INDEX, house, h -> h.play(0, 0));
        house.stop();
        Check.thrown("record 1", Check.INDEX, house, h -> h.play(1, 0));
        Check.thrown("record -1", Check.INDEX, house, h -> h.play(-1, 0));
        Check.thrown("no such layer", Check.INDEX, house, h -> h.play(0, 2));
        Check.thrown("a group", Check.UNSUPPORTED, house, h -> h.play(0, 1));
        house.record();
        Check.thrown("no such layer while recording", Check.INDEX, house, h -> h.play(0, -1));
        Check.thrown("a group while recording", Check.UNSUPPORTED, house, h -> h.play(0, 1));
        Check.thrown("while recording", Check.STATE, house, h -> h.play(0, 0));
    }
}
