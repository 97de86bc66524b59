/**
 * If several exceptions apply, the one that is documented first is thrown: each call here has two reasons or more to
 * be refused. All promises with two exceptions or more that can apply at once.
 */
final class OrderTest {
    private static final Class<IllegalArgumentException> ARGUMENT = IllegalArgumentException.class;
    private static final Class<IllegalStateException> STATE = IllegalStateException.class;
    private static final Class<IndexOutOfBoundsException> INDEX = IndexOutOfBoundsException.class;
    private static final Class<UnsupportedOperationException> UNSUPPORTED = UnsupportedOperationException.class;

    public static void main(String[] args) {
        coils();
        shapes();
        bends();
        dies();
        works();
        tools();
        runs();
        calls();
        Check.end();
    }

    /** Promises 2 and 3. */
    private static void coils() {
        StrikeStrip full = Shops.full();
        Check.refuses("a 13th coil of no alloy", ARGUMENT, () -> full.coil(4, 100, 40, 10));
        Check.refuses("a 13th coil, too thin", ARGUMENT, () -> full.coil(0, 19, 40, 10));
        Check.refuses("a 13th coil, too narrow", ARGUMENT, () -> full.coil(0, 100, 9, 10));
        Check.refuses("a 13th coil, too short", ARGUMENT, () -> full.coil(0, 100, 40, 0));
        StrikeStrip shop = Shops.working();
        Check.refuses("no coil behind the same", INDEX, () -> shop.weld(5, 5));
        Check.refuses("no coil behind one that is used up", INDEX, () -> shop.weld(1, 5));
        Check.refuses("one that is used up behind no coil", INDEX, () -> shop.weld(-1, 1));
    }

    /** Promises 6, 7 and 11. */
    private static void shapes() {
        StrikeStrip full = Shops.full();
        Check.refuses("a 9th part of no alloy", ARGUMENT, () -> full.part(-1, 100));
        Check.refuses("a 9th part, too thick", ARGUMENT, () -> full.part(0, 601));
        Check.refuses("no part, and off the board", INDEX, () -> full.draw(8, 8, 8, 0, 0));
        Check.refuses("off the board of a part with a die", ARGUMENT, () -> full.draw(0, 0, 0, 9, 1));
        Check.refuses("no columns for a part with a die", ARGUMENT, () -> full.draw(0, 0, 0, 0, 1));
        Check.refuses("no part, and no limit", INDEX, () -> full.revise(8, 100));
    }

    /** Promises 13, 14 and 15; the profile of the working shop has 3 bends and no good order. */
    private static void bends() {
        StrikeStrip shop = new StrikeStrip();
        Check.refuses("a bend of 0 without a profile", ARGUMENT, () -> shop.bend(true, 0));
        Check.refuses("a radius of 1000 without a profile", ARGUMENT, () -> shop.unfolded(1000, 100));
        Check.refuses("a thickness of 19 without a profile", ARGUMENT, () -> shop.unfolded(100, 19));
        StrikeStrip full = Shops.full();
        Check.refuses("a 7th bend of 10", ARGUMENT, () -> full.bend(true, 10));
        StrikeStrip working = Shops.working();
        Check.refuses("no place, and no order", INDEX, () -> working.bendAt(3));
        Check.refuses("a place below 0, and no order", INDEX, () -> working.bendAt(-1));
    }

    /** Promise 20; the last part of the full shop has no shape. */
    private static void dies() {
        StrikeStrip full = Shops.full();
        Check.refuses("a 9th die for no part", INDEX, () -> full.die(8, true));
        Check.refuses("a 9th die for nothing", UNSUPPORTED, () -> full.die(7, true));
        Check.refuses("a 9th die", STATE, () -> full.die(6, true));
    }

    /** Promises 21 to 23. */
    private static void works() {
        StrikeStrip full = Shops.full();
        Check.refuses("a work of no force in no die", INDEX, () -> full.work(8, 0, 150, 0));
        Check.refuses("a 9th work of no force", ARGUMENT, () -> full.work(0, 0, 150, 0));
        Check.refuses("a 9th work at no degree", ARGUMENT, () -> full.work(0, 10, 89, 0));
        Check.refuses("a 9th work at no place", ARGUMENT, () -> full.work(0, 10, 150, 100));
        Check.refuses("no work behind itself", INDEX, () -> full.behind(0, 8, 8));
        Check.refuses("a work behind itself in no die", INDEX, () -> full.behind(8, 0, 0));
        Check.refuses("no work apart from itself", INDEX, () -> full.apart(0, 8, 8) ? 1 : 0);
        Check.refuses("a work apart from itself in no die", INDEX, () -> full.apart(-1, 0, 0) ? 1 : 0);
    }

    /** Promises 29, 30, 31 and 35. */
    private static void tools() {
        StrikeStrip full = Shops.full();
        Check.refuses("fingers from no degree in no die", INDEX, () -> full.fingers(8, -1, 0) ? 1 : 0);
        Check.refuses("fingers to no degree in no die", INDEX, () -> full.fingers(8, 0, 360) ? 1 : 0);
        Check.refuses("a sensor at no degree in no die", INDEX, () -> full.sensor(8, 360));
        Check.refuses("no clearance in no die", INDEX, () -> full.clearance(8, 0));
        Check.refuses("a misfeed at no stroke of no die", INDEX, () -> full.misfeed(8, 100000));
    }

    /** Promise 37. */
    private static void runs() {
        StrikeStrip idle = Shops.withDie(false);
        idle.coil(1, 100, 15, 100);
        Check.refuses("no coil, no strokes, no die", INDEX, () -> idle.run(1, 0));
        Check.refuses("no strokes, no die", ARGUMENT, () -> idle.run(0, 0));
        Check.refuses("601 strokes, no die", ARGUMENT, () -> idle.run(0, 601));
        Check.refuses("no die, and it would not go with the part", STATE, () -> idle.run(0, 1));
        idle.change(0);
        Check.refuses("no coil, no strokes", INDEX, () -> idle.run(-1, 0));
        Check.refuses("no strokes of what does not go with the part", ARGUMENT, () -> idle.run(0, 0));
        Check.refuses("what does not go with the part", UNSUPPORTED, () -> idle.run(0, 1));
        idle.work(0, 300, 180, 0);
        Check.refuses("no coil for what does not suit", INDEX, () -> idle.run(1, 1));
        Check.refuses("no strokes of what does not suit", ARGUMENT, () -> idle.run(0, 0));
        Check.refuses("neither suits the press nor goes with the part", STATE, () -> idle.run(0, 1));
        idle.press(300);
        for (int i = 0; i < 9; i++) {
            idle.regrind(0);
        }
        Check.refuses("no coil for what is worn out", INDEX, () -> idle.run(1, 1));
        Check.refuses("no strokes of what is worn out", ARGUMENT, () -> idle.run(0, 601));
        Check.refuses("worn out, and it would not go with the part", STATE, () -> idle.run(0, 1));
    }

    /** Promise 41. */
    private static void calls() {
        StrikeStrip full = Shops.full();
        Check.refuses("a 41st call for none of no part", INDEX, () -> full.call(8, 0, 0));
        Check.refuses("a call for no part", INDEX, () -> full.call(-1, 1, 300));
        Check.refuses("a 41st call for none", ARGUMENT, () -> full.call(0, 0, 300));
        Check.refuses("a 41st call at this minute", ARGUMENT, () -> full.call(0, 1, 0));
        Check.refuses("a 41st call", STATE, () -> full.call(0, 1, 300));
    }
}
