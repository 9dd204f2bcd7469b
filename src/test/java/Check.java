import java.util.function.Consumer;

/** What the tests share: it counts the wrong answers, and the test ends with exit code 1 if there was one. */
final class Check {
    static final Class<? extends RuntimeException> INDEX = IndexOutOfBoundsException.class;
    static final Class<? extends RuntimeException> ARGUMENT = IllegalArgumentException.class;
    static final Class<? extends RuntimeException> UNSUPPORTED = UnsupportedOperationException.class;
    static final Class<? extends RuntimeException> STATE = IllegalStateException.class;
    static final Class<? extends RuntimeException> ELEMENT = java.util.NoSuchElementException.class;
    static final Class<? extends RuntimeException> ARITHMETIC = ArithmeticException.class;

    private static int checks = 0;
    private static int wrong = 0;

    private Check() {
    }

    static void same(String what, long due, long got) {
        isTrue(what + " answered " + got + ", due is " + due, got == due);
    }

    static void sameDouble(String what, double due, double got) {
        isTrue(what + " answered " + got + ", due is " + due, got == due);
    }

    static void isTrue(String what, boolean holds) {
        checks++;
        if (!holds) {
            wrong++;
            System.out.println(what);
        }
    }

    /** The call throws just this exception, from a statement of the program, and changes nothing. */
    static void thrown(String what, Class<? extends RuntimeException> due, Palettehouse house, Consumer<Palettehouse> call) {
        String before = looksOf(house);
        RuntimeException got = null;
        try {
            call.accept(house);
        } catch (RuntimeException e) {
            got = e;
        }
        isTrue(what + " threw " + got + ", due is " + due, got != null && got.getClass() == due);
        isTrue(what + " threw outside of the program", got == null || isOfProgram(got));
        isTrue(what + " changed something", before.equals(looksOf(house)));
    }

    static boolean isOfProgram(RuntimeException e) {
        return e.getStackTrace()[0].getClassName().startsWith("Palettehouse");
    }

    /** Some answers that change nothing; RefusalsTest asks for more of them, of objects that it needs no more. */
    static String looksOf(Palettehouse house) {
        StringBuilder looks = new StringBuilder();
        looks.append(house.state()).append(' ').append(house.states()).append(' ').append(house.sum());
        looks.append(' ').append(house.rendered()).append(' ').append(house.isConsistent());
        looks.append(' ').append(house.cover()).append(' ').append(house.paletteError(8));
        return looks.toString();
    }

    /** The tiles, by bits, that are not kept; all are kept then, if the limit allows it. 32 calls. */
    static int tilesNotKept(Palettehouse house) {
        int tiles = 0;
        int before = house.rendered();
        for (int tile = 0; tile < 16; tile++) {
            house.value(tile % 4 * 4, tile / 4 * 4);
            int behind = house.rendered();
            tiles |= behind == before ? 0 : 1 << tile;
            before = behind;
        }
        return tiles;
    }

    /** Looks at all tiles: all are kept then, if the limit allows it. 16 calls. */
    static void keepTiles(Palettehouse house) {
        for (int tile = 0; tile < 16; tile++) {
            house.value(tile % 4 * 4, tile / 4 * 4);
        }
    }

    /** The tiles, by bits, that a call touches. */
    static int tilesTouched(Palettehouse house, Consumer<Palettehouse> call) {
        keepTiles(house);
        call.accept(house);
        return tilesNotKept(house);
    }

    static Palettehouse onePaintLayer() {
        Palettehouse house = new Palettehouse();
        house.addLayer('p', -1);
        return house;
    }

    /** Makes all the states for which there is room; an even number of them leaves the selection as it was. */
    static void fullOfStates(Palettehouse house) {
        while (house.states() < 60) {
            house.invert();
        }
    }

    static void end() {
        System.out.println("        " + checks + " checks, " + wrong + " wrong");
        if (wrong != 0) {
            System.exit(1);
        }
    }
}
