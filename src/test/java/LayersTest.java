/** Promises 1 to 10: a new object, and the edits of layers. */
final class LayersTest {
    public static void main(String[] args) {
        newObject();
        addLayer();
        addLayerWrong();
        eightLayers();
        thirtyNumbers();
        setLook();
        setPassing();
        setChange();
        setOffset();
        lock();
        move();
        remove();
        setMask();
        Check.end();
    }

    private static void newObject() {
        Palettehouse house = new Palettehouse();
        Check.same("state of a new object", 0, house.state());
        Check.same("states of a new object", 1, house.states());
        Check.same("rendered of a new object", 0, house.rendered());
        Check.same("value of a new object", 0, house.value(7, 9));
        Check.same("alpha of a new object", 0, house.alpha(7, 9));
        Check.same("selected of a new object", 255, house.selected(15, 15));
        Check.same("limit of a new object", 16, house.setKept(16));
        Check.thrown("a layer of a new object", Check.INDEX, house, h -> h.setMask(0, true));
        Check.thrown("undo of a new object", Check.ELEMENT, house, h -> h.undo());
        Check.thrown("stop of a new object", Check.STATE, house, h -> h.stop());
    }

    private static void addLayer() {
        Palettehouse house = new Palettehouse();
        Check.same("the first layer", 0, house.addLayer('p', -1));
        Check.same("a group", 1, house.addLayer('g', -1));
        Check.same("a group in a group", 2, house.addLayer('g', 1));
        Check.same("a layer in that one", 3, house.addLayer('p', 2));
        Check.same("a change in it, too", 4, house.addLayer('a', 2));
        Check.same("the states", 5, house.state());
        house.fill(0, 0, 16, 16, 40, 255);
        house.fill(3, 0, 16, 16, 90, 255);
        Check.same("the change above 90, the group above 40", 165, house.value(0, 0));
        Check.same("above all others", 5, house.addLayer('p', -1));
        house.fill(5, 0, 16, 16, 7, 255);
        Check.same("the last one is the highest one", 7, house.value(0, 0));
        house.go(0);
        Check.same("a number is not given again", 6, house.addLayer('p', -1));
        Check.thrown("a layer of another state", Check.INDEX, house, h -> h.addLayer('p', 1));
        Check.same("full, mode n and shown at first, and its picture is empty", 0, house.alpha(0, 0));
    }

    private static void addLayerWrong() {
        Palettehouse house = new Palettehouse();
        house.addLayer('p', -1);
        house.addLayer('g', -1);
        house.addLayer('g', 1);
        house.addLayer('a', 2);
        Check.thrown("no such group", Check.INDEX, house, h -> h.addLayer('p', 4));
        Check.thrown("no such group, -2", Check.INDEX, house, h -> h.addLayer('p', -2));
        Check.thrown("no such group ahead of no such kind", Check.INDEX, house, h -> h.addLayer('x', 9));
        Check.thrown("no such kind", Check.ARGUMENT, house, h -> h.addLayer('x', -1));
        Check.thrown("no such kind: 0", Check.ARGUMENT, house, h -> h.addLayer((char) 0, -1));
        Check.thrown("no such kind: a great one", Check.ARGUMENT, house, h -> h.addLayer((char) ('p' + 256), -1));
        Check.thrown("no such kind ahead of no group", Check.ARGUMENT, house, h -> h.addLayer('P', 0));
        Check.thrown("in a paint layer", Check.UNSUPPORTED, house, h -> h.addLayer('p', 0));
        Check.thrown("in a change", Check.UNSUPPORTED, house, h -> h.addLayer('g', 3));
        Check.thrown("too deep", Check.UNSUPPORTED, house, h -> h.addLayer('g', 2));
        Check.same("not too deep for a paint layer", 4, house.addLayer('p', 2));
    }

    private static void eightLayers() {
        Palettehouse house = new Palettehouse();
        house.addLayer('g', -1);
        for (int i = 1; i < 8; i++) {
            Check.same("one of eight", i, house.addLayer(i == 1 ? 'p' : 'a', i % 2 == 0 ? 0 : -1));
        }
        Check.thrown("a ninth layer", Check.STATE, house, h -> h.addLayer('p', -1));
        Check.thrown("a ninth layer in no group", Check.UNSUPPORTED, house, h -> h.addLayer('p', 1));
        house.remove(1);
        Check.same("room again", 8, house.addLayer('p', -1));
        house.undo();
        Check.same("room in that state, too", 9, house.addLayer('p', -1));
    }

    private static void thirtyNumbers() {
        Palettehouse house = new Palettehouse();
        for (int number = 0; number < 30; number++) {
            if (number % 8 == 0) {
                house.go(0);
            }
            Check.same("one of thirty", number, house.addLayer('p', -1));
        }
        Check.thrown("a number more", Check.STATE, house, h -> h.addLayer('p', -1));
        house.go(0);
        Check.thrown("a number more in an empty state", Check.STATE, house, h -> h.addLayer('g', -1));
    }

    private static void setLook() {
        Palettehouse house = new Palettehouse();
        house.addLayer('p', -1);
        house.fill(0, 0, 16, 16, 100, 255);
        Check.same("setLook answers the state", 3, house.setLook(0, 51, 'm', true));
        Check.same("the alpha by the opacity", 51, house.alpha(0, 0));
        Check.same("not shown", 4, house.setLook(0, 255, 'n', false));
        Check.same("what is not shown", 0, house.alpha(0, 0));
        house.setLook(0, 0, 'l', true);
        Check.same("no opacity", 0, house.alpha(0, 0));
        Check.thrown("no such layer", Check.INDEX, house, h -> h.setLook(1, -1, 'n', true));
        Check.thrown("no such layer, -1", Check.INDEX, house, h -> h.setLook(-1, 1, 'n', true));
        Check.thrown("opacity 256", Check.ARGUMENT, house, h -> h.setLook(0, 256, 'n', true));
        Check.thrown("opacity -1", Check.ARGUMENT, house, h -> h.setLook(0, -1, 'n', true));
        Check.thrown("no such mode", Check.ARGUMENT, house, h -> h.setLook(0, 1, 'p', true));
        for (char mode : "nmsadkl".toCharArray()) {
            Check.same("a mode", house.states(), house.setLook(0, 255, mode, true));
        }
        Check.fullOfStates(house);
        Check.thrown("60 states", Check.STATE, house, h -> h.setLook(0, 1, 'n', true));
        Check.thrown("no such mode at 60 states", Check.ARGUMENT, house, h -> h.setLook(0, 1, 'x', true));
    }

    private static void setPassing() {
        Palettehouse house = new Palettehouse();
        house.addLayer('p', -1);
        house.fill(0, 0, 16, 16, 100, 255);
        house.addLayer('g', -1);
        house.addLayer('a', 1);
        Check.same("a closed group: nothing below the change", 100, house.value(0, 0));
        Check.same("setPassing answers the state", 5, house.setPassing(1, true));
        Check.same("a passing group: the change of what is below", 155, house.value(0, 0));
        house.setPassing(1, false);
        Check.same("closed again", 100, house.value(0, 0));
        Check.thrown("no such layer", Check.INDEX, house, h -> h.setPassing(3, true));
        Check.thrown("a paint layer", Check.UNSUPPORTED, house, h -> h.setPassing(0, true));
        Check.thrown("a change", Check.UNSUPPORTED, house, h -> h.setPassing(2, false));
        Check.fullOfStates(house);
        Check.thrown("60 states", Check.STATE, house, h -> h.setPassing(1, true));
        Check.thrown("no group at 60 states", Check.UNSUPPORTED, house, h -> h.setPassing(0, true));
    }

    private static void setChange() {
        Palettehouse house = new Palettehouse();
        house.addLayer('p', -1);
        house.fill(0, 0, 16, 16, 100, 255);
        house.addLayer('a', -1);
        Check.same("'i' at first", 155, house.value(0, 0));
        Check.same("setChange answers the state", 4, house.setChange(1, 't', 100, -9));
        Check.same("'t' at its number", 255, house.value(0, 0));
        house.setChange(1, 't', 101, 999);
        Check.same("'t' below its number", 0, house.value(0, 0));
        house.setChange(1, 'l', 90, 120);
        Check.same("'l' between", 85, house.value(0, 0));
        house.setChange(1, 'l', 100, 120);
        Check.same("'l' at its first number", 0, house.value(0, 0));
        house.setChange(1, 'l', 99, 100);
        Check.same("'l' at its second number", 255, house.value(0, 0));
        house.setChange(1, 'l', 0, 255);
        Check.same("'l' with the widest numbers", 100, house.value(0, 0));
        house.setChange(1, 'i', -5, 999);
        Check.same("'i' with any numbers", 155, house.value(0, 0));
        Check.thrown("no such layer", Check.INDEX, house, h -> h.setChange(2, 'x', 0, 0));
        Check.thrown("no such kind", Check.ARGUMENT, house, h -> h.setChange(1, 'p', 0, 1));
        Check.thrown("no such kind ahead of no change", Check.ARGUMENT, house, h -> h.setChange(0, 'p', 0, 1));
        Check.thrown("'t' with 256", Check.ARGUMENT, house, h -> h.setChange(1, 't', 256, 0));
        Check.thrown("'t' with -1", Check.ARGUMENT, house, h -> h.setChange(1, 't', -1, 0));
        Check.thrown("'l' with equal numbers", Check.ARGUMENT, house, h -> h.setChange(1, 'l', 9, 9));
        Check.thrown("'l' with 256", Check.ARGUMENT, house, h -> h.setChange(1, 'l', 9, 256));
        Check.thrown("'l' with -1", Check.ARGUMENT, house, h -> h.setChange(1, 'l', -1, 9));
        Check.thrown("'l' with the greatest int", Check.ARGUMENT, house, h -> h.setChange(1, 'l', Integer.MAX_VALUE, 9));
        Check.thrown("a paint layer", Check.UNSUPPORTED, house, h -> h.setChange(0, 'i', 0, 0));
        Check.fullOfStates(house);
        Check.thrown("60 states", Check.STATE, house, h -> h.setChange(1, 'i', 0, 0));
        Check.thrown("no change at 60 states", Check.UNSUPPORTED, house, h -> h.setChange(0, 'i', 0, 0));
    }

    private static void setOffset() {
        Palettehouse house = new Palettehouse();
        house.addLayer('p', -1);
        house.addLayer('g', -1);
        house.fill(0, 0, 1, 1, 50, 255);
        house.fill(0, 255, 1, 1, 60, 255);
        Check.same("setOffset answers the state", 5, house.setOffset(0, 15, 15));
        Check.same("the first pixel is the last one", 50, house.value(15, 15));
        Check.same("nothing elsewhere", 0, house.alpha(14, 15) + house.alpha(0, 0));
        house.setOffset(0, -15, -15);
        Check.same("the last pixel is the first one", 60, house.value(0, 0));
        house.setOffset(0, 3, -15);
        Check.same("nothing is seen", 0, house.alpha(3, 0) + house.alpha(15, 0));
        house.setOffset(0, 3, 5);
        Check.same("3 and 5", 50, house.value(3, 5));
        Check.thrown("no such layer", Check.INDEX, house, h -> h.setOffset(2, 16, 0));
        for (int wrong : new int[] {-16, 16, Integer.MIN_VALUE}) {
            Check.thrown("x out of range", Check.ARGUMENT, house, h -> h.setOffset(0, wrong, 0));
            Check.thrown("y out of range", Check.ARGUMENT, house, h -> h.setOffset(0, 0, wrong));
            Check.thrown("ahead of no paint layer", Check.ARGUMENT, house, h -> h.setOffset(1, 0, wrong));
        }
        Check.thrown("a group", Check.UNSUPPORTED, house, h -> h.setOffset(1, 0, 0));
        Check.fullOfStates(house);
        Check.thrown("60 states", Check.STATE, house, h -> h.setOffset(0, 0, 0));
        Check.thrown("a group at 60 states", Check.UNSUPPORTED, house, h -> h.setOffset(1, 0, 0));
    }

    private static void lock() {
        Palettehouse house = new Palettehouse();
        house.addLayer('p', -1);
        house.addLayer('a', -1);
        house.setLook(1, 0, 'n', true);
        house.fill(0, 0, 16, 16, 10, 100);
        Check.same("lock answers the state", 5, house.lock(0, true));
        house.fill(0, 0, 16, 16, 20, 200);
        Check.same("the value of a locked layer", 20, house.value(0, 0));
        Check.same("the alpha of a locked layer", 100, house.alpha(0, 0));
        house.lock(0, false);
        house.fill(0, 0, 16, 16, 30, 200);
        Check.same("the alpha of a layer that is locked no more", 200, house.alpha(0, 0));
        Check.same("lock touches no tile", 0, Check.tilesTouched(house, h -> h.lock(0, true)));
        Check.thrown("no such layer", Check.INDEX, house, h -> h.lock(2, true));
        Check.thrown("a change", Check.UNSUPPORTED, house, h -> h.lock(1, true));
        Check.fullOfStates(house);
        Check.thrown("60 states", Check.STATE, house, h -> h.lock(0, true));
        Check.thrown("a change at 60 states", Check.UNSUPPORTED, house, h -> h.lock(1, true));
    }

    private static void move() {
        Palettehouse house = new Palettehouse();
        house.addLayer('p', -1);
        house.addLayer('g', -1);
        house.addLayer('p', -1);
        house.addLayer('p', 1);
        house.addLayer('p', 1);
        house.addLayer('p', 1);
        house.addLayer('p', -1);
        for (int layer : new int[] {0, 2, 3, 4, 5, 6}) {
            house.fill(layer, 0, 16, 16, 10 * layer, 255);
        }
        Check.same("6 on top", 60, house.value(0, 0));
        Check.same("from 3 to 0", 3, house.move(6, 0));
        Check.same("2 on top", 20, house.value(0, 0));
        Check.same("the group from 2", 2, house.move(1, 3));
        Check.same("the group on top", 50, house.value(0, 0));
        Check.same("inside, from 0", 0, house.move(3, 2));
        Check.same("3 on top inside", 30, house.value(0, 0));
        Check.same("inside, from 1", 1, house.move(5, 1));
        Check.same("to the same place", 30, house.value(0, 0));
        Check.same("down by one", 2, house.move(3, 1));
        Check.same("5 on top inside", 50, house.value(0, 0));
        Check.same("0 from 1", 1, house.move(0, 3));
        Check.same("0 on top", 0, house.value(0, 0));
        Check.same("the order outside: 6 2 1 0", 0, house.move(6, 0));
        Check.same("the order outside: 2 second", 1, house.move(2, 1));
        Check.same("the order outside: 1 third", 2, house.move(1, 2));
        Check.thrown("no such layer", Check.INDEX, house, h -> h.move(7, -1));
        Check.thrown("place -1", Check.ARGUMENT, house, h -> h.move(0, -1));
        Check.thrown("place 4 of 4", Check.ARGUMENT, house, h -> h.move(0, 4));
        Check.thrown("place 3 of 3 inside", Check.ARGUMENT, house, h -> h.move(4, 3));
        Check.fullOfStates(house);
        Check.thrown("60 states", Check.STATE, house, h -> h.move(0, 0));
        Check.thrown("no such place at 60 states", Check.ARGUMENT, house, h -> h.move(0, 4));
    }

    private static void remove() {
        Palettehouse house = new Palettehouse();
        house.addLayer('g', -1);
        house.addLayer('g', 0);
        house.addLayer('p', 1);
        house.addLayer('p', 0);
        house.addLayer('p', -1);
        house.addLayer('a', 1);
        house.fill(2, 0, 16, 16, 77, 255);
        house.fill(3, 0, 8, 16, 88, 255);
        Check.same("a layer taken out", 5, house.remove(3));
        Check.same("what was below it", 178, house.value(0, 0));
        Check.same("a group with both inside", 2, house.remove(1));
        Check.same("nothing is left", 0, house.alpha(0, 0));
        Check.thrown("what was inside", Check.INDEX, house, h -> h.remove(2));
        house.undo();
        Check.same("the outer group with all inside", 1, house.remove(0));
        Check.thrown("the group inside", Check.INDEX, house, h -> h.setPassing(1, true));
        Check.same("the last one", 0, house.remove(4));
        Check.thrown("no layer is left", Check.INDEX, house, h -> h.remove(4));
        house.go(6);
        Check.fullOfStates(house);
        Check.thrown("60 states", Check.STATE, house, h -> h.remove(0));
        Check.thrown("no such layer at 60 states", Check.INDEX, house, h -> h.remove(6));
    }

    private static void setMask() {
        Palettehouse house = new Palettehouse();
        house.addLayer('p', -1);
        house.fill(0, 0, 16, 16, 100, 255);
        Check.same("setMask answers the state", 3, house.setMask(0, true));
        Check.same("255 everywhere", 255, house.alpha(15, 15));
        house.fillMask(0, 0, 16, 16, 40);
        Check.same("the mask counts", 40, house.alpha(0, 0));
        house.setMask(0, true);
        Check.same("in place of the earlier one", 255, house.alpha(0, 0));
        house.fillMask(0, 0, 16, 16, 0);
        Check.same("taken away", 7, house.setMask(0, false));
        Check.same("no mask counts", 255, house.alpha(0, 0));
        Check.thrown("no mask is there", Check.UNSUPPORTED, house, h -> h.fillMask(0, 0, 1, 1, 1));
        Check.same("taken away once more", 8, house.setMask(0, false));
        house.addLayer('g', -1);
        house.addLayer('a', 1);
        Check.same("a group can have one", 11, house.setMask(1, true));
        Check.same("a change can have one", 12, house.setMask(2, true));
        Check.thrown("no such layer", Check.INDEX, house, h -> h.setMask(3, true));
        Check.fullOfStates(house);
        Check.thrown("60 states", Check.STATE, house, h -> h.setMask(0, true));
        Check.thrown("no such layer at 60 states", Check.INDEX, house, h -> h.setMask(3, true));
    }
}
