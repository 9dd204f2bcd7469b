/** The rendering that the terms tell: modes, strengths, groups, changes; numbers reckoned by hand. */
final class RenderingTest {
    public static void main(String[] args) {
        modes();
        modesOverAlpha();
        roundedUp();
        strengthOfMask();
        closedGroup();
        passingGroup();
        passingGroupOfNothing();
        changes();
        changeInGroups();
        hidden();
        Check.end();
    }

    private static Palettehouse twoLayers(int below, int alphaBelow, int above, int alphaAbove) {
        Palettehouse house = new Palettehouse();
        house.addLayer('p', -1);
        house.addLayer('p', -1);
        house.fill(0, 0, 16, 16, below, alphaBelow);
        house.fill(1, 0, 16, 16, above, alphaAbove);
        return house;
    }

    private static void pixel(String what, int value, int alpha, Palettehouse house) {
        Check.same("value of " + what, value, house.value(5, 6));
        Check.same("alpha of " + what, alpha, house.alpha(5, 6));
        Check.same("value anew of " + what, value, house.valueAnew(5, 6));
    }

    private static void modes() {
        // Products: (200 * 100 + 127) / 255 = 78, (55 * 155 + 127) / 255 = 33.
        int[] due = {100, 78, 222, 255, 100, 100, 200};
        int[] dueBack = {200, 78, 222, 255, 100, 100, 200};
        for (int i = 0; i < due.length; i++) {
            char mode = "nmsadkl".charAt(i);
            Palettehouse house = twoLayers(200, 255, 100, 255);
            house.setLook(1, 255, mode, true);
            pixel("100 on 200 in mode " + mode, due[i], 255, house);
            house = twoLayers(100, 255, 200, 255);
            house.setLook(1, 255, mode, true);
            pixel("200 on 100 in mode " + mode, dueBack[i], 255, house);
        }
        Palettehouse house = twoLayers(20, 255, 30, 255);
        house.setLook(1, 255, 'a', true);
        pixel("a sum that is not too great", 50, 255, house);
    }

    private static void modesOverAlpha() {
        // a = 128, ab = 100, d = 255 * 128 + 127 * 100 = 45340, n = 128 * (155 * 100 + 100 * 78) + 127 * 100 * 200.
        Palettehouse house = twoLayers(200, 100, 100, 128);
        house.setLook(1, 255, 'm', true);
        pixel("a product on half of an alpha", (2 * 5522400 + 45340) / (2 * 45340), (2 * 45340 + 255) / 510, house);
        // On nothing the mode does not matter: ab is 0.
        house = twoLayers(200, 0, 100, 128);
        house.setLook(1, 255, 'm', true);
        pixel("a product on nothing", 100, 128, house);
        house = twoLayers(200, 77, 100, 0);
        pixel("nothing on a pixel", 200, 77, house);
    }

    /** What lies just at the half is rounded up: 128 plus 127 is 255. */
    private static void roundedUp() {
        Palettehouse house = twoLayers(0, 0, 100, 1);
        house.setLook(1, 127, 'n', true);
        pixel("the product of 1 and 127", 0, 0, house);
        house.setLook(1, 128, 'n', true);
        pixel("the product of 1 and 128", 100, 1, house);
        house = new Palettehouse();
        house.addLayer('p', -1);
        house.addLayer('a', -1);
        house.fill(0, 0, 16, 16, 127, 255);
        house.setLook(1, 128, 'n', true);
        // 128 * 128 + 127 * 127 = 32513 = 127 * 255 + 128.
        pixel("a change in part", 128, 255, house);
    }

    private static void strengthOfMask() {
        Palettehouse house = twoLayers(0, 0, 100, 200);
        house.setLook(1, 100, 'n', true);
        pixel("opacity alone", 100, 78, house);
        house.setMask(1, true);
        house.fillMask(1, 0, 16, 16, 50);
        // 100 * 50 makes 20, and 200 * 20 makes 16.
        pixel("opacity and mask", 100, 16, house);
        house.fillMask(1, 0, 16, 16, 0);
        pixel("an empty mask", 0, 0, house);
        // The mask is one of the whole picture: the offset does not move it.
        house.fillMask(1, 16 * 6 + 5, 1, 1, 255);
        house.setOffset(1, 2, 1);
        pixel("a mask and an offset", 100, 78, house);
        Check.same("beside the one pixel of the mask", 0, house.alpha(6, 6));
    }

    private static void closedGroup() {
        Palettehouse house = new Palettehouse();
        house.addLayer('p', -1);
        house.addLayer('g', -1);
        house.addLayer('p', 1);
        house.fill(0, 0, 16, 16, 200, 255);
        house.fill(2, 0, 16, 16, 100, 255);
        house.setLook(2, 255, 'm', true);
        pixel("a mode inside, with nothing below", 100, 255, house);
        house.setLook(1, 255, 'm', true);
        pixel("the mode of the group", 78, 255, house);
        house.setLook(1, 51, 'n', true);
        pixel("the opacity of the group", (51 * 100 + 204 * 200) / 255, 255, house);
        house.remove(2);
        pixel("an empty group", 200, 255, house);
    }

    private static void passingGroup() {
        Palettehouse house = new Palettehouse();
        house.addLayer('p', -1);
        house.addLayer('g', -1);
        house.addLayer('p', 1);
        house.fill(0, 0, 16, 16, 200, 100);
        house.fill(2, 0, 16, 16, 100, 128);
        house.setLook(2, 255, 'm', true);
        house.setPassing(1, true);
        // r = 122 and ar = 178, as in modesOverAlpha().
        pixel("passing with its full strength", 122, 178, house);
        house.setLook(1, 60, 's', true);
        // d = 60 * 178 + 195 * 100 = 30180; n = 60 * 178 * 122 + 195 * 100 * 200 = 5202960.
        pixel("passing with a part of it", (2 * 5202960 + 30180) / 60360, (60360 + 255) / 510, house);
        house.setLook(1, 0, 's', true);
        pixel("passing with no strength", 200, 100, house);
        house.setLook(1, 255, 'n', true);
        house.setMask(1, true);
        house.fillMask(1, 0, 16, 16, 60);
        pixel("passing with the strength of a mask", (2 * 5202960 + 30180) / 60360, (60360 + 255) / 510, house);
    }

    private static void passingGroupOfNothing() {
        Palettehouse house = new Palettehouse();
        house.addLayer('p', -1);
        house.addLayer('g', -1);
        house.setPassing(1, true);
        house.fill(0, 0, 16, 16, 99, 1);
        house.setLook(1, 100, 'n', true);
        // d = 100 * 1 + 155 * 1.
        pixel("a faint pixel", 99, 1, house);
        house.addLayer('g', -1);
        house.setLook(0, 255, 'n', false);
        pixel("nothing at all", 0, 0, house);
        house.addLayer('p', 1);
        house.fill(3, 0, 16, 16, 77, 1);
        // t ar = 100: the alpha is (200 + 255) / 510 = 0, yet the value is that of the pixel.
        pixel("too faint for an alpha", 77, 0, house);
    }

    private static void changes() {
        Palettehouse house = new Palettehouse();
        house.addLayer('p', -1);
        house.addLayer('a', -1);
        house.fill(0, 0, 16, 16, 100, 70);
        pixel("what is changed", 155, 70, house);
        house.setLook(1, 51, 'm', true);
        pixel("what is changed in part", (51 * 155 + 204 * 100 + 127) / 255, 70, house);
        house.setLook(1, 255, 'n', true);
        house.setMask(1, true);
        house.fillMask(1, 0, 16, 16, 51);
        pixel("what is changed by a mask", (51 * 155 + 204 * 100 + 127) / 255, 70, house);
        house.setMask(1, false);
        house.setChange(1, 'l', 90, 97);
        pixel("above both numbers", 255, 70, house);
        house.setChange(1, 'l', 90, 107);
        pixel("a quotient that is cut", 150, 70, house);
        house.fill(0, 0, 16, 16, 100, 0);
        house.setChange(1, 'i', 0, 0);
        pixel("what has no alpha", 0, 0, house);
        house.move(1, 0);
        house.fill(0, 0, 16, 16, 100, 70);
        pixel("a change below", 100, 70, house);
    }

    private static void changeInGroups() {
        Palettehouse house = new Palettehouse();
        house.addLayer('p', -1);
        house.fill(0, 0, 16, 16, 100, 255);
        house.addLayer('g', -1);
        house.addLayer('g', 1);
        house.addLayer('a', 2);
        pixel("in two closed groups", 100, 255, house);
        house.setPassing(2, true);
        pixel("the outer one is closed", 100, 255, house);
        house.setPassing(1, true);
        pixel("both are passing", 155, 255, house);
        house.setPassing(2, false);
        pixel("the inner one is closed", 100, 255, house);
    }

    private static void hidden() {
        Palettehouse house = new Palettehouse();
        house.addLayer('p', -1);
        house.fill(0, 0, 16, 16, 100, 255);
        house.addLayer('g', -1);
        house.addLayer('g', 1);
        house.addLayer('p', 2);
        house.fill(3, 0, 16, 16, 50, 255);
        pixel("all shown", 50, 255, house);
        house.setLook(3, 255, 'n', false);
        pixel("the layer is not shown", 100, 255, house);
        house.setLook(3, 255, 'n', true);
        house.setLook(2, 255, 'n', false);
        pixel("its group is not shown", 100, 255, house);
        house.setLook(2, 255, 'n', true);
        house.setLook(1, 255, 'n', false);
        pixel("that one's group is not shown", 100, 255, house);
        house.setPassing(1, true);
        pixel("a passing group that is not shown", 100, 255, house);
    }
}
