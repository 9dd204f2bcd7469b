import java.lang.reflect.InvocationTargetException;
import java.lang.reflect.Method;
import java.util.ArrayList;
import java.util.Arrays;
import java.util.List;
import java.util.Set;
import java.util.function.Supplier;

/**
 * Each refused call: which exception it throws, which one comes first where several conditions hold, and that it
 * changes nothing. A row names a call that is allowed, and the values of its arguments that are not. Each of these is
 * tried alone and with each one of another argument, in a workshop with room and in those that hinder the call itself.
 */
final class RefusalsTest {
    private static final int LEAST = Integer.MIN_VALUE;
    private static final int GREATEST = Integer.MAX_VALUE;

    /** The layers of rich(). */
    private static final int MASKED = 0;
    private static final int GROUP = 1;
    private static final int INNER_GROUP = 2;
    private static final int CHANGE = 3;
    private static final int LOCKED = 4;
    private static final int REMOVED = 5;
    /** No number of a layer is as great as this one. */
    private static final int NEVER_GIVEN = 30;
    /** The present state of rich(), with three states behind it; the states ahead of it have no other one. */
    private static final int PRESENT = 18;

    private static final Object[] NO_LAYERS = {-1, REMOVED, NEVER_GIVEN, LEAST, GREATEST};
    private static final Object[] NO_GROUPS = {-2, REMOVED, NEVER_GIVEN, LEAST, GREATEST};
    private static final Object[] NO_LEVELS = {-1, 256, LEAST, GREATEST};
    private static final Object[] NO_SIDES = {0, 17, -1, LEAST, GREATEST};
    private static final Object[] NO_AXES = {-1, 16, LEAST, GREATEST};

    private static final List<Method> TRIED = new ArrayList<>();

    /** An argument's value for which a call must throw what is due. */
    private static final class Refused {
        final int argument;
        final Object value;
        final Class<?> due;

        Refused(int argument, Object value, Class<?> due) {
            this.argument = argument;
            this.value = value;
            this.due = due;
        }
    }

    private static final class Row {
        final Method method;
        final Object[] allowed;
        final List<Refused> refused = new ArrayList<>();

        Row(String name, Object... allowed) {
            method = methodOf(name);
            this.allowed = allowed;
        }

        Row refuses(int argument, Class<?> due, Object... values) {
            for (Object value : values) {
                refused.add(new Refused(argument, value, due));
            }
            return this;
        }

        /** In workshops that do not hinder it. */
        Row in(Supplier<Palettehouse> house) throws Exception {
            Object answer = answerOf(method, house.get(), allowed);
            Check.isTrue(told(allowed) + " threw " + answer, !(answer instanceof RuntimeException));
            tryAll(house, null);
            return this;
        }

        /** In workshops that hinder it, whatever its arguments are. */
        Row hindered(Supplier<Palettehouse> house, Class<?> due) throws Exception {
            refusal(house, allowed, due, looksOf(house));
            tryAll(house, due);
            return this;
        }

        private void tryAll(Supplier<Palettehouse> house, Class<?> hindrance) throws Exception {
            TRIED.add(method);
            List<String> before = looksOf(house);
            for (Refused one : refused) {
                refusal(house, with(one, one), first(one.due, one.due, hindrance), before);
                for (Refused other : refused) {
                    if (other.argument > one.argument) {
                        refusal(house, with(one, other), first(one.due, other.due, hindrance), before);
                    }
                }
            }
        }

        private Object[] with(Refused one, Refused other) {
            Object[] arguments = allowed.clone();
            arguments[one.argument] = one.value;
            arguments[other.argument] = other.value;
            return arguments;
        }

        /** The one that the method names first; FaceTest holds its order against the document's. */
        private Class<?> first(Class<?>... due) {
            for (Class<?> named : method.getExceptionTypes()) {
                if (Arrays.asList(due).contains(named)) {
                    return named;
                }
            }
            throw new IllegalStateException("the row of " + method.getName() + " is wrong");
        }

        private void refusal(Supplier<Palettehouse> house, Object[] arguments, Class<?> due, List<String> before) throws Exception {
            for (int way = 0; way < before.size(); way++) {
                Palettehouse refusing = house.get();
                Object answer = answerOf(method, refusing, arguments);
                Check.isTrue(told(arguments) + " answered " + answer + ", due is " + due, answer != null && answer.getClass() == due);
                Check.isTrue(told(arguments) + " threw outside of the program",
                        !(answer instanceof RuntimeException) || Check.isOfProgram((RuntimeException) answer));
                Check.isTrue(told(arguments) + " changed something", before.get(way).equals(answers(refusing, way)));
            }
        }

        private String told(Object[] arguments) {
            return method.getName() + Arrays.toString(arguments);
        }
    }

    public static void main(String[] args) throws Exception {
        layers();
        changes();
        masksAndOffsets();
        pictures();
        paintFrom();
        selection();
        ways();
        records();
        looks();
        allAreTried();
        Check.end();
    }

    // ---- workshops

    private static Palettehouse unlooked() {
        Palettehouse house = new Palettehouse();
        for (char kind : "pggapp".toCharArray()) {
            house.addLayer(kind, new int[] {-1, -1, GROUP, INNER_GROUP, GROUP, -1}[house.states() - 1]);
        }
        house.remove(REMOVED);
        house.setMask(MASKED, true);
        house.record();
        house.fill(MASKED, 0, 16, 9, 100, 200);
        house.stroke(MASKED, 3, 200, 2, 3, 40, 90);
        house.stop();
        house.setPassing(GROUP, true);
        house.setPassing(INNER_GROUP, true);
        house.fill(LOCKED, 40, 7, 7, 220, 130);
        house.setLook(LOCKED, 200, 'm', true);
        house.setOffset(LOCKED, 2, -1);
        house.lock(LOCKED, true);
        house.fillMask(MASKED, 20, 9, 9, 77);
        house.setLook(CHANGE, 100, 'n', true);
        for (int behind = 0; behind < 3; behind++) {
            house.select(17, 9, 11 - behind, 'r');
            house.go(PRESENT);
        }
        return house;
    }

    /** Keeps 5 tiles, the one at 4, 4 looked at longest ago. */
    private static Palettehouse looked(Palettehouse house) {
        house.setKept(5);
        for (int tile : new int[] {5, 3, 12, 0, 10}) {
            house.value(tile % 4 * 4 + 1, tile / 4 * 4 + 2);
        }
        return house;
    }

    private static Palettehouse rich() {
        return looked(unlooked());
    }

    private static Palettehouse fullOfStates() {
        Palettehouse house = unlooked();
        Check.fullOfStates(house);
        house.go(PRESENT);
        return looked(house);
    }

    private static Palettehouse eightLayers() {
        Palettehouse house = unlooked();
        for (int group : new int[] {-1, GROUP, INNER_GROUP}) {
            house.addLayer('a', group);
        }
        return looked(house);
    }

    private static Palettehouse thirtyNumbers() {
        Palettehouse house = unlooked();
        for (int number = REMOVED + 1; number < 30; number++) {
            house.go(0);
            house.addLayer('p', -1);
        }
        house.go(PRESENT);
        return looked(house);
    }

    private static Palettehouse recording() {
        Palettehouse house = rich();
        house.record();
        house.fill(MASKED, 0, 1, 1, 1, 1);
        return house;
    }

    private static Palettehouse threeRecords() {
        Palettehouse house = rich();
        for (int kept = 1; kept < 3; kept++) {
            house.record();
            house.blur(MASKED, kept);
            house.stop();
        }
        return house;
    }

    private static Palettehouse atTheBeginning() {
        Palettehouse house = unlooked();
        house.go(0);
        return looked(house);
    }

    private static Palettehouse atAnEnd() {
        Palettehouse house = unlooked();
        house.redo(2);
        return looked(house);
    }

    // ---- what can be asked of them

    private static List<String> looksOf(Supplier<Palettehouse> house) {
        return List.of(answers(house.get(), 0), answers(house.get(), 1));
    }

    /**
     * The answers of some 300 calls: workshops that differ in anything that calls can tell differ in them.
     * One way asks which tiles are kept, the other one which two of them were looked at last.
     */
    private static String answers(Palettehouse house, int way) {
        StringBuilder told = new StringBuilder();
        ask(told, house::rendered);
        ask(told, () -> house.setKept(way == 0 ? 16 : 2));
        ask(told, () -> Check.tilesNotKept(house));
        ask(told, house::isConsistent);
        ask(told, house::state);
        ask(told, house::states);
        ask(told, house::cover);
        ask(told, house::mean);
        ask(told, () -> house.palette(8, 3));
        for (int place = 0; place < 256; place += 3) {
            int x = place % 16;
            int y = place / 16;
            ask(told, () -> house.valueAnew(x, y));
        }
        ask(told, house::stop);
        ask(told, house::record);
        ask(told, house::stop);
        for (int record = 0; record < 4; record++) {
            int played = record;
            ask(told, () -> house.play(played, MASKED));
        }
        for (int layer = 0; layer <= REMOVED; layer++) {
            int asked = layer;
            ask(told, () -> house.move(asked, 0));
        }
        ask(told, () -> house.fill(LOCKED, 0, 16, 16, 9, 9));
        ask(told, () -> house.redo(0));
        ask(told, () -> house.addLayer('a', -1));
        int states = house.states();
        for (int state = 0; state < states; state++) {
            int there = state;
            ask(told, () -> house.go(there));
            ask(told, house::sum);
        }
        return told.toString();
    }

    private static void ask(StringBuilder told, Supplier<Object> call) {
        String answer;
        try {
            answer = String.valueOf(call.get());
        } catch (RuntimeException e) {
            answer = e.getClass().getName();
        }
        told.append(answer).append(' ');
    }

    private static Method methodOf(String name) {
        for (Method method : Palettehouse.class.getDeclaredMethods()) {
            if (method.getName().equals(name)) {
                return method;
            }
        }
        throw new IllegalStateException("there is no method " + name);
    }

    private static Object answerOf(Method method, Palettehouse house, Object[] arguments) throws Exception {
        try {
            return method.invoke(house, arguments);
        } catch (InvocationTargetException e) {
            return e.getCause();
        }
    }

    // ---- the rows

    private static Row rowOfEdit(Row row) throws Exception {
        return row.in(RefusalsTest::rich).hindered(RefusalsTest::fullOfStates, Check.STATE);
    }

    private static Row rowOfLayer(Row row) throws Exception {
        return rowOfEdit(row.refuses(0, Check.INDEX, NO_LAYERS).refuses(0, Check.INDEX, REMOVED + 1));
    }

    private static void layers() throws Exception {
        Object[] noKinds = {'x', 'P', 'G', 'A', 'o', 'q', 'f', 'h', 'b', '`', (char) 0, (char) ('p' + 256), (char) 65535};
        for (Row row : List.of(
                new Row("addLayer", 'p', INNER_GROUP).refuses(1, Check.UNSUPPORTED, MASKED, CHANGE, LOCKED),
                new Row("addLayer", 'a', GROUP).refuses(1, Check.UNSUPPORTED, MASKED, CHANGE, LOCKED),
                new Row("addLayer", 'g', GROUP).refuses(1, Check.UNSUPPORTED, MASKED, CHANGE, INNER_GROUP),
                new Row("addLayer", 'g', -1))) {
            rowOfEdit(row.refuses(0, Check.ARGUMENT, noKinds).refuses(1, Check.INDEX, NO_GROUPS));
            row.hindered(RefusalsTest::eightLayers, Check.STATE).hindered(RefusalsTest::thirtyNumbers, Check.STATE);
        }
        Object[] noModes = {'x', 'N', 'p', 'g', 'b', 'c', 'j', 'o', 'r', 't', '`', (char) 0, (char) ('n' + 256), (char) 65535};
        rowOfLayer(new Row("setLook", GROUP, 100, 'm', false).refuses(1, Check.ARGUMENT, NO_LEVELS).refuses(2, Check.ARGUMENT, noModes));
        rowOfLayer(new Row("setPassing", GROUP, true).refuses(0, Check.UNSUPPORTED, MASKED, CHANGE, LOCKED));
        rowOfLayer(new Row("lock", MASKED, true).refuses(0, Check.UNSUPPORTED, GROUP, INNER_GROUP, CHANGE));
        rowOfLayer(new Row("move", MASKED, 1).refuses(1, Check.ARGUMENT, -1, 2, LEAST, GREATEST));
        rowOfLayer(new Row("move", LOCKED, 1).refuses(1, Check.ARGUMENT, -1, 2, LEAST, GREATEST));
        rowOfLayer(new Row("move", CHANGE, 0).refuses(1, Check.ARGUMENT, -1, 1, LEAST, GREATEST));
        rowOfLayer(new Row("remove", GROUP));
    }

    private static void changes() throws Exception {
        Object[] noKinds = {'x', 'I', 'T', 'L', 'h', 'j', 's', 'u', 'k', 'm', 'a', 'n', (char) 0, (char) ('i' + 256)};
        for (Row row : List.of(
                new Row("setChange", CHANGE, 'i', LEAST, GREATEST),
                new Row("setChange", CHANGE, 't', 0, LEAST).refuses(2, Check.ARGUMENT, NO_LEVELS),
                new Row("setChange", CHANGE, 't', 255, GREATEST).refuses(2, Check.ARGUMENT, NO_LEVELS),
                new Row("setChange", CHANGE, 'l', 0, 1).refuses(2, Check.ARGUMENT, -1, 1, 2, 256, LEAST, GREATEST)
                        .refuses(3, Check.ARGUMENT, 0, -1, 256, LEAST, GREATEST),
                new Row("setChange", CHANGE, 'l', 254, 255).refuses(2, Check.ARGUMENT, -1, 255, 256, LEAST, GREATEST)
                        .refuses(3, Check.ARGUMENT, 254, 253, 0, 256, LEAST, GREATEST),
                new Row("setChange", CHANGE, 'l', 0, 255).refuses(2, Check.ARGUMENT, -1, 255, 256, LEAST, GREATEST)
                        .refuses(3, Check.ARGUMENT, 0, -1, 256, LEAST, GREATEST))) {
            rowOfLayer(row.refuses(1, Check.ARGUMENT, noKinds).refuses(0, Check.UNSUPPORTED, MASKED, GROUP, INNER_GROUP));
        }
    }

    private static void masksAndOffsets() throws Exception {
        Object[] noOffsets = {-16, 16, LEAST, GREATEST};
        for (int offset : new int[] {-15, 15}) {
            rowOfLayer(new Row("setOffset", MASKED, offset, -offset).refuses(1, Check.ARGUMENT, noOffsets)
                    .refuses(2, Check.ARGUMENT, noOffsets).refuses(0, Check.UNSUPPORTED, GROUP, CHANGE));
        }
        rowOfLayer(new Row("setMask", MASKED, true));
        rowOfLayer(new Row("setMask", GROUP, false));
        for (int side : new int[] {1, 16}) {
            rowOfLayer(boxOf(new Row("fillMask", MASKED, 0, side, side, 0)).refuses(4, Check.ARGUMENT, NO_LEVELS)
                    .refuses(0, Check.UNSUPPORTED, GROUP, CHANGE, LOCKED));
        }
    }

    private static Row boxOf(Row row) {
        return row.refuses(1, Check.ARGUMENT, NO_LEVELS).refuses(2, Check.ARGUMENT, NO_SIDES).refuses(3, Check.ARGUMENT, NO_SIDES);
    }

    private static void pictures() throws Exception {
        for (int level : new int[] {0, 255}) {
            int side = level == 0 ? 1 : 16;
            rowOfLayer(boxOf(new Row("fill", MASKED, level, side, side, level, level)).refuses(4, Check.ARGUMENT, NO_LEVELS)
                    .refuses(5, Check.ARGUMENT, NO_LEVELS).refuses(0, Check.UNSUPPORTED, GROUP, CHANGE));
            int size = level == 0 ? 1 : 4;
            int spacing = level == 0 ? 1 : 9;
            rowOfLayer(new Row("stroke", LOCKED, level, level, size, spacing, level, level).refuses(1, Check.ARGUMENT, NO_LEVELS)
                    .refuses(2, Check.ARGUMENT, NO_LEVELS).refuses(3, Check.ARGUMENT, 0, 5, LEAST, GREATEST)
                    .refuses(4, Check.ARGUMENT, 0, 10, LEAST, GREATEST).refuses(5, Check.ARGUMENT, NO_LEVELS)
                    .refuses(6, Check.ARGUMENT, NO_LEVELS).refuses(0, Check.UNSUPPORTED, GROUP, CHANGE));
        }
        for (int radius = 1; radius <= 2; radius++) {
            rowOfLayer(new Row("blur", LOCKED, radius).refuses(1, Check.ARGUMENT, 0, 3, -1, LEAST, GREATEST)
                    .refuses(0, Check.UNSUPPORTED, GROUP, INNER_GROUP, CHANGE));
        }
    }

    private static void paintFrom() throws Exception {
        int states = rich().states();
        for (int side : new int[] {1, 16}) {
            // The layer came with the state 5: it is not there in the states 0 to 4.
            Row row = new Row("paintFrom", LOCKED, 5, side == 1 ? 255 : 0, side).refuses(1, Check.INDEX, -1, 60, LEAST, GREATEST)
                    .refuses(1, Check.UNSUPPORTED, 0, 4).refuses(2, Check.ARGUMENT, NO_LEVELS).refuses(3, Check.ARGUMENT, NO_SIDES)
                    .refuses(0, Check.UNSUPPORTED, GROUP, CHANGE);
            rowOfLayer(row);
            new Row("paintFrom", LOCKED, states - 1, 0, side).refuses(1, Check.INDEX, states).in(RefusalsTest::rich);
        }
    }

    private static void selection() throws Exception {
        Object[] noWays = {'x', 'R', 'q', 't', 'b', 'h', 'j', 'p', (char) 0, (char) ('r' + 256)};
        for (char way : "rasi".toCharArray()) {
            int side = way == 'r' || way == 's' ? 1 : 16;
            rowOfEdit(new Row("select", side == 1 ? 0 : 255, side, side, way).refuses(0, Check.ARGUMENT, NO_LEVELS)
                    .refuses(1, Check.ARGUMENT, NO_SIDES).refuses(2, Check.ARGUMENT, NO_SIDES).refuses(3, Check.ARGUMENT, noWays));
        }
        for (int level : new int[] {0, 255}) {
            rowOfLayer(new Row("selectLike", LOCKED, level, level, level == 0).refuses(1, Check.ARGUMENT, NO_LEVELS)
                    .refuses(2, Check.ARGUMENT, NO_LEVELS).refuses(0, Check.UNSUPPORTED, GROUP, CHANGE));
        }
        for (int by : new int[] {-3, -1, 1, 3}) {
            rowOfEdit(new Row("grow", by).refuses(0, Check.ARGUMENT, 0, -4, 4, LEAST, GREATEST));
        }
        rowOfEdit(new Row("feather"));
        rowOfEdit(new Row("invert"));
    }

    private static void ways() throws Exception {
        int states = rich().states();
        new Row("undo").in(RefusalsTest::rich).in(RefusalsTest::fullOfStates).hindered(RefusalsTest::atTheBeginning, Check.ELEMENT);
        for (int branch = 0; branch < 3; branch++) {
            new Row("redo", branch).refuses(0, Check.ELEMENT, -1, LEAST, GREATEST).in(RefusalsTest::rich);
        }
        new Row("redo", 2).refuses(0, Check.ELEMENT, 3).in(RefusalsTest::rich);
        new Row("redo", 0).refuses(0, Check.ELEMENT, 1, -1).in(RefusalsTest::atTheBeginning)
                .hindered(RefusalsTest::atAnEnd, Check.ELEMENT);
        new Row("go", 0).refuses(0, Check.INDEX, -1, states, 60, LEAST, GREATEST).in(RefusalsTest::rich);
        new Row("go", states - 1).refuses(0, Check.INDEX, states).in(RefusalsTest::rich);
        new Row("go", 59).refuses(0, Check.INDEX, -1, 60, LEAST, GREATEST).in(RefusalsTest::fullOfStates);
    }

    private static void records() throws Exception {
        new Row("record").in(RefusalsTest::rich).in(RefusalsTest::fullOfStates)
                .hindered(RefusalsTest::recording, Check.STATE).hindered(RefusalsTest::threeRecords, Check.STATE);
        new Row("stop").in(RefusalsTest::recording)
                .hindered(RefusalsTest::rich, Check.STATE).hindered(RefusalsTest::threeRecords, Check.STATE);
        Object[] noLayers = {-1, REMOVED, REMOVED + 1, NEVER_GIVEN, LEAST, GREATEST};
        new Row("play", 0, LOCKED).refuses(0, Check.INDEX, -1, 1, 3, LEAST, GREATEST).refuses(1, Check.INDEX, noLayers)
                .refuses(1, Check.UNSUPPORTED, GROUP, INNER_GROUP, CHANGE)
                .in(RefusalsTest::rich).in(RefusalsTest::fullOfStates).hindered(RefusalsTest::recording, Check.STATE);
        new Row("play", 2, MASKED).refuses(0, Check.INDEX, -1, 3, LEAST, GREATEST).in(RefusalsTest::threeRecords);
    }

    private static void looks() throws Exception {
        for (String name : List.of("selected", "value", "alpha", "valueAnew")) {
            for (int axis : new int[] {0, 15}) {
                new Row(name, axis, axis).refuses(0, Check.INDEX, NO_AXES).refuses(1, Check.INDEX, NO_AXES)
                        .in(RefusalsTest::rich).in(RefusalsTest::fullOfStates);
            }
        }
        for (int side : new int[] {1, 16}) {
            new Row("setKept", side).refuses(0, Check.ARGUMENT, NO_SIDES).in(RefusalsTest::rich);
        }
        Object[] noCounts = {0, 9, -1, LEAST, GREATEST};
        for (int count : new int[] {1, 8}) {
            new Row("palette", count, count - 1).refuses(0, Check.ARGUMENT, noCounts).refuses(1, Check.ARGUMENT, -1, 8, LEAST, GREATEST)
                    .in(RefusalsTest::rich);
            new Row("paletteError", count).refuses(0, Check.ARGUMENT, noCounts).in(RefusalsTest::rich);
        }
        new Row("mean").in(RefusalsTest::rich).hindered(RefusalsTest::atTheBeginning, Check.ARITHMETIC);
    }

    /** No method that names an exception was left out. */
    private static void allAreTried() {
        Set<Method> tried = Set.copyOf(TRIED);
        for (Method method : Palettehouse.class.getDeclaredMethods()) {
            boolean throwsSome = java.lang.reflect.Modifier.isPublic(method.getModifiers()) && method.getExceptionTypes().length > 0;
            Check.isTrue("not tried: " + method.getName(), !throwsSome || tried.contains(method));
        }
    }
}
