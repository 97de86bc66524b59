/** Promises 1 to 5. */
final class CoilTest {
    private static final Class<IllegalArgumentException> ARGUMENT = IllegalArgumentException.class;
    private static final Class<IllegalStateException> STATE = IllegalStateException.class;
    private static final Class<IndexOutOfBoundsException> INDEX = IndexOutOfBoundsException.class;
    private static final Class<UnsupportedOperationException> UNSUPPORTED = UnsupportedOperationException.class;

    public static void main(String[] args) {
        newShop();
        bounds();
        twelve();
        weights();
        welds();
        weldRefusals();
        weldChains();
        weldOfRest();
        weldEdges();
        lastMillimetre();
        roundings();
        shopsApart();
        Check.end();
    }

    private static void newShop() {
        StrikeStrip shop = new StrikeStrip();
        Check.refuses("left of no coil", INDEX, () -> shop.left(0));
        Check.refuses("racks of no part", INDEX, () -> shop.racks(0));
        Check.refuses("shims of no die", INDEX, () -> shop.shims(0));
        Check.is("press of a new shop", shop.press(200), 200);
        Check.is("the end of no run", shop.ended(), '-');
        Check.is("the first minute", shop.pass(1), 1);
        Check.isTrue("a new shop is sound", new StrikeStrip().isSound());
    }

    private static void bounds() {
        StrikeStrip shop = new StrikeStrip();
        Check.refuses("alloy -1", ARGUMENT, () -> shop.coil(-1, 100, 50, 10));
        Check.refuses("alloy 4", ARGUMENT, () -> shop.coil(4, 100, 50, 10));
        Check.refuses("thickness 19", ARGUMENT, () -> shop.coil(0, 19, 50, 10));
        Check.refuses("thickness 601", ARGUMENT, () -> shop.coil(0, 601, 50, 10));
        Check.refuses("width 9", ARGUMENT, () -> shop.coil(0, 100, 9, 10));
        Check.refuses("width 501", ARGUMENT, () -> shop.coil(0, 100, 501, 10));
        Check.refuses("length 0", ARGUMENT, () -> shop.coil(0, 100, 50, 0));
        Check.refuses("length 100001", ARGUMENT, () -> shop.coil(0, 100, 50, 100001));
        Check.refuses("least length", ARGUMENT, () -> shop.coil(0, 100, 50, Integer.MIN_VALUE));
        Check.is("the least coil", shop.coil(0, 20, 10, 1), 0);
        Check.is("the greatest coil", shop.coil(3, 600, 500, 100000), 1);
        Check.is("left of the least", shop.left(0), 1);
        Check.is("left of the greatest", shop.left(1), 100000);
        Check.is("weight of the least", shop.weight(0), 15);
        Check.is("weight of the greatest", shop.weight(1), 2550000000L);
        Check.refuses("left(-1)", INDEX, () -> shop.left(-1));
        Check.refuses("left(2)", INDEX, () -> shop.left(2));
        Check.refuses("left(12)", INDEX, () -> shop.left(12));
        Check.refuses("weight(-1)", INDEX, () -> shop.weight(-1));
        Check.refuses("weight(2)", INDEX, () -> shop.weight(2));
        Check.refuses("weight(max)", INDEX, () -> shop.weight(Integer.MAX_VALUE));
    }

    private static void twelve() {
        StrikeStrip shop = new StrikeStrip();
        for (int i = 0; i < 12; i++) {
            Check.is("the number of a coil", shop.coil(0, 100, 50, 10), i);
        }
        Check.refuses("the 13th coil", STATE, () -> shop.coil(0, 100, 50, 10));
        Check.refuses("a wrong 13th coil", ARGUMENT, () -> shop.coil(4, 100, 50, 10));
        shop.weld(0, 1);
        Check.refuses("the 13th coil behind a weld", STATE, () -> shop.coil(0, 100, 50, 10));
    }

    private static void weights() {
        StrikeStrip shop = new StrikeStrip();
        shop.coil(0, 21, 11, 3);
        shop.coil(1, 21, 11, 3);
        shop.coil(2, 21, 11, 3);
        shop.coil(3, 21, 11, 3);
        Check.is("weight of alloy 0", shop.weight(0), 54);
        Check.is("weight of alloy 1", shop.weight(1), 18);
        Check.is("weight of alloy 2", shop.weight(2), 62);
        Check.is("weight of alloy 3", shop.weight(3), 58);
    }

    private static void welds() {
        StrikeStrip shop = new StrikeStrip();
        shop.coil(0, 21, 11, 3);
        shop.coil(0, 26, 11, 3);
        Check.is("weight of a stretch", shop.weight(1), 67);
        Check.is("a weld", shop.weld(0, 1), 6);
        Check.is("left of it", shop.left(0), 6);
        Check.is("left of the other one", shop.left(1), 0);
        Check.is("weight of the other one", shop.weight(1), 0);
        Check.is("weight of both, rounded once", shop.weight(0), 121);
        Check.isTrue("sound", shop.isSound());
    }

    private static void weldRefusals() {
        StrikeStrip shop = new StrikeStrip();
        shop.coil(0, 100, 50, 10);
        shop.coil(0, 106, 50, 10);
        shop.coil(1, 100, 50, 10);
        shop.coil(0, 100, 51, 10);
        shop.coil(0, 95, 50, 10);
        shop.coil(0, 94, 50, 10);
        Check.refuses("weld(-1, 0)", INDEX, () -> shop.weld(-1, 0));
        Check.refuses("weld(0, 6)", INDEX, () -> shop.weld(0, 6));
        Check.refuses("weld(6, 6)", INDEX, () -> shop.weld(6, 6));
        Check.refuses("weld(0, 0)", UNSUPPORTED, () -> shop.weld(0, 0));
        Check.refuses("a thicker one", UNSUPPORTED, () -> shop.weld(0, 1));
        Check.refuses("a thinner one", UNSUPPORTED, () -> shop.weld(0, 5));
        Check.refuses("another alloy", UNSUPPORTED, () -> shop.weld(0, 2));
        Check.refuses("another width", UNSUPPORTED, () -> shop.weld(0, 3));
        Check.is("just so", shop.weld(0, 4), 20);
        Check.refuses("one that is used up", UNSUPPORTED, () -> shop.weld(0, 4));
        Check.refuses("to one that is used up", UNSUPPORTED, () -> shop.weld(4, 5));
        Check.refuses("an end that is too thin", UNSUPPORTED, () -> shop.weld(0, 1));
        Check.is("the end counts", shop.weld(0, 5), 30);
    }

    private static void weldChains() {
        StrikeStrip shop = new StrikeStrip();
        for (int i = 0; i < 12; i++) {
            shop.coil(2, 100 + 5 * i, 50, 10 + i);
        }
        for (int i = 10; i >= 6; i--) {
            shop.weld(i, i + 1);
        }
        for (int i = 1; i <= 5; i++) {
            shop.weld(0, i);
        }
        Check.refuses("the wrong way around", UNSUPPORTED, () -> shop.weld(6, 0));
        Check.is("all twelve", shop.weld(0, 6), 186);
        long weight = 0;
        for (int i = 0; i < 12; i++) {
            weight += 50L * (10 + i) * (100 + 5 * i) * 896;
        }
        Check.is("their weight", shop.weight(0), weight / 10000);
        Check.isTrue("sound", shop.isSound());
    }

    /** A stretch that was run down to nothing is not what the next one meets. */
    private static void weldOfRest() {
        StrikeStrip shop = new StrikeStrip();
        shop.coil(0, 100, 50, 10);
        shop.coil(0, 105, 50, 10);
        shop.coil(0, 110, 50, 10);
        shop.coil(0, 97, 50, 10);
        shop.weld(0, 1);
        shop.part(0, 100);
        shop.draw(0, 0, 0, 1, 1);
        shop.die(0, false);
        shop.change(0);
        Check.is("a run down to the weld", shop.run(0, 1), 1);
        Check.refuses("to the end that met it", UNSUPPORTED, () -> shop.weld(3, 0));
        Check.is("behind the rest", shop.weld(0, 2), 20);
        shop.run(0, 2);
        Check.is("nothing is left", shop.left(0), 0);
        Check.refuses("to a coil without metal", UNSUPPORTED, () -> shop.weld(0, 3));
        Check.refuses("of a coil without metal", UNSUPPORTED, () -> shop.weld(3, 0));
    }

    /** Thicknesses that meet may differ by 5; alloys and widths not at all. */
    private static void weldEdges() {
        for (int unlike = -7; unlike <= 7; unlike++) {
            StrikeStrip shop = new StrikeStrip();
            shop.coil(2, 300, 50, 10);
            shop.coil(2, 300 + unlike, 50, 10);
            if (unlike >= -5 && unlike <= 5) {
                Check.is("unlike by " + unlike, shop.weld(0, 1), 20);
            } else {
                Check.refuses("unlike by " + unlike, UNSUPPORTED, () -> shop.weld(0, 1));
            }
        }
        for (int wider = -1; wider <= 1; wider++) {
            for (int alloy = 1; alloy <= 3; alloy++) {
                StrikeStrip shop = new StrikeStrip();
                shop.coil(2, 300, 50, 10);
                shop.coil(alloy, 300, 50 + wider, 10);
                if (wider == 0 && alloy == 2) {
                    Check.is("alike", shop.weld(0, 1), 20);
                } else {
                    Check.refuses("wider by " + wider, UNSUPPORTED, () -> shop.weld(0, 1));
                }
            }
        }
        // 100 and 105 are welded: behind them 110 is taken, ahead of them 95, each by the stretch that it meets.
        StrikeStrip shop = new StrikeStrip();
        int[] thicknesses = {100, 105, 110, 111, 95, 94};
        for (int thickness : thicknesses) {
            shop.coil(0, thickness, 50, 10);
        }
        shop.weld(0, 1);
        Check.refuses("111 behind 105", UNSUPPORTED, () -> shop.weld(0, 3));
        Check.refuses("100 behind 94", UNSUPPORTED, () -> shop.weld(5, 0));
        Check.is("100 behind 95", shop.weld(4, 0), 30);
        Check.is("110 behind 105", shop.weld(4, 2), 40);
        Check.is("nothing is left of what was welded", shop.left(0) + shop.left(1) + shop.left(2), 0);
    }

    /** A coil with a millimetre left can be welded and weighed, one with none can't be welded. */
    private static void lastMillimetre() {
        for (int length = 10; length <= 11; length++) {
            StrikeStrip shop = Shops.ready(length);
            shop.coil(0, 100, 15, 5);
            shop.coil(0, 100, 15, 5);
            Check.is("a stroke", shop.run(0, 1), 1);
            Check.is("left", shop.left(0), length - 10);
            Check.is("its weight", shop.weight(0), (length - 10) * 15L * 100 * 785 / 10000);
            if (length == 10) {
                Check.refuses("behind nothing", UNSUPPORTED, () -> shop.weld(0, 1));
                Check.refuses("of nothing", UNSUPPORTED, () -> shop.weld(1, 0));
            } else {
                Check.is("behind a millimetre", shop.weld(0, 1), 6);
                Check.is("of that", shop.weld(2, 0), 11);
            }
        }
    }

    private static void roundings() {
        // 15.7, 5.4, 17.92 and 17 milligrams.
        int[] dues = {15, 5, 17, 17};
        for (int alloy = 0; alloy < 4; alloy++) {
            StrikeStrip shop = new StrikeStrip();
            shop.coil(alloy, 20, 10, 1);
            Check.is("rounded down", shop.weight(0), dues[alloy]);
        }
        // 5.4 and 5.67 are 11.07: they are put together first.
        StrikeStrip shop = new StrikeStrip();
        shop.coil(1, 20, 10, 1);
        shop.coil(1, 21, 10, 1);
        shop.weld(0, 1);
        Check.is("parts of a milligram are kept", shop.weight(0), 11);
        StrikeStrip long1 = new StrikeStrip();
        for (int i = 0; i < 12; i++) {
            long1.coil(2, 600, 500, 100000);
        }
        for (int i = 1; i < 12; i++) {
            Check.is("the longest", long1.weld(0, i), 100000 * (i + 1));
        }
        Check.is("the heaviest", long1.weight(0), 12 * 2688000000L);
        Check.isTrue("sound", long1.isSound());
    }

    private static void shopsApart() {
        StrikeStrip one = Shops.working();
        StrikeStrip other = new StrikeStrip();
        Check.isText("another new shop", Look.at(other), Look.at(new StrikeStrip()));
        Check.is("its first coil", other.coil(0, 20, 10, 1), 0);
        Check.is("the coils of the first one", one.coil(0, 20, 10, 1), 5);
    }
}
