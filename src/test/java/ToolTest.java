/** Promises 30 to 35. */
final class ToolTest {
    private static final Class<IllegalArgumentException> ARGUMENT = IllegalArgumentException.class;
    private static final Class<IllegalStateException> STATE = IllegalStateException.class;
    private static final Class<IndexOutOfBoundsException> INDEX = IndexOutOfBoundsException.class;
    private static final Class<UnsupportedOperationException> UNSUPPORTED = UnsupportedOperationException.class;

    public static void main(String[] args) {
        sensors();
        clearances();
        regrinds();
        burrs();
        misfeeds();
        manyMisfeeds();
        wearAhead();
        wornOut();
        clearancesOnBothSides();
        misfeedsOfMadeStrokes();
        Check.end();
    }

    private static void sensors() {
        StrikeStrip shop = Shops.withDie(false);
        Check.refuses("no die", INDEX, () -> shop.sensor(1, -1));
        Check.refuses("die -1", INDEX, () -> shop.sensor(-1, 1));
        Check.refuses("degree -1", ARGUMENT, () -> shop.sensor(0, -1));
        Check.refuses("degree 360", ARGUMENT, () -> shop.sensor(0, 360));
        Check.is("the first degree", shop.sensor(0, 0), 90);
        Check.is("the least", shop.sensor(0, 359), 0);
        Check.is("the greatest", shop.sensor(0, 90), 359);
        shop.die(0, false);
        Check.is("another die", shop.sensor(1, 3), 90);
    }

    private static void clearances() {
        StrikeStrip shop = Shops.ready(1000);
        Check.refuses("no die", INDEX, () -> shop.clearance(1, 0));
        Check.refuses("clearance 0", ARGUMENT, () -> shop.clearance(0, 0));
        Check.refuses("clearance 31", ARGUMENT, () -> shop.clearance(0, 31));
        Check.is("the least", shop.clearance(0, 1), 7);
        Check.is("the greatest", shop.clearance(0, 30), 22);
        Check.is("the best", shop.clearance(0, 8), 0);
        shop.run(0, 50);
        Check.is("with wear", shop.clearance(0, 9), 2);
    }

    private static void regrinds() {
        StrikeStrip shop = Shops.ready(100000);
        Check.refuses("no die to grind", INDEX, () -> shop.regrind(1));
        Check.refuses("no die with shims", INDEX, () -> shop.shims(-1));
        Check.is("no shims", shop.shims(0), 0);
        for (int i = 1; i <= 9; i++) {
            Check.is("a run ahead of it", shop.run(0, 1), 1);
            Check.is("the punches", shop.regrind(0), 5000 - 25 * i);
            Check.is("the shims", shop.shims(0), 25 * i);
        }
        Check.refuses("worn out", UNSUPPORTED, () -> shop.regrind(0));
        Check.refuses("a run of what is worn out", STATE, () -> shop.run(0, 1));
        Check.is("it may be in", shop.change(0), 0);
        Check.is("its strokes", shop.strokes(0), 9);
    }

    private static void burrs() {
        StrikeStrip shop = Shops.ready(100000);
        Check.refuses("no die", INDEX, () -> shop.burr(1));
        Check.refuses("die -1", INDEX, () -> shop.burr(-1));
        Check.is("none at first", shop.burr(0), 0);
        shop.run(0, 49);
        Check.is("behind 49", shop.burr(0), 0);
        shop.run(0, 1);
        Check.is("behind 50", shop.burr(0), 1);
        shop.run(0, 60);
        Check.is("behind 110", shop.burr(0), 2);
        shop.clearance(0, 5);
        Check.is("with a clearance", shop.burr(0), 5);
        shop.regrind(0);
        Check.is("reground", shop.burr(0), 3);
        Check.is("its strokes stay", shop.strokes(0), 110);
    }

    private static void misfeeds() {
        StrikeStrip shop = Shops.ready(1000);
        Check.refuses("no die", INDEX, () -> shop.misfeed(1, -1));
        Check.refuses("stroke -1", ARGUMENT, () -> shop.misfeed(0, -1));
        Check.refuses("stroke 100000", ARGUMENT, () -> shop.misfeed(0, 100000));
        Check.is("the greatest", shop.misfeed(0, 99999), 1);
        Check.is("the least", shop.misfeed(0, 0), 2);
        Check.refuses("told", ARGUMENT, () -> shop.misfeed(0, 0));
        Check.refuses("told, too", ARGUMENT, () -> shop.misfeed(0, 99999));
        Check.is("a later one", shop.misfeed(0, 9), 3);
        Check.is("the run of the first", shop.run(0, 5), 0);
        Check.is("its strokes", shop.strokes(0), 1);
        Check.refuses("a stroke that was made", ARGUMENT, () -> shop.misfeed(0, 0));
        Check.is("the first one is over", shop.misfeed(0, 1), 3);
        shop.die(0, false);
        Check.is("another die", shop.misfeed(1, 0), 1);
        Check.is("and one more", shop.misfeed(1, 1), 2);
    }

    private static void manyMisfeeds() {
        StrikeStrip shop = Shops.ready(100000);
        for (int i = 0; i < 330; i++) {
            Check.is("in any order", shop.misfeed(0, i * 7 % 330 * 2), i + 1);
        }
        for (int i = 0; i < 50; i++) {
            Check.is("each second stroke", shop.run(0, 600), i == 0 ? 0 : 1);
            Check.is("ended by it", shop.ended(), 'm');
            Check.is("as many strokes", shop.strokes(0), 2 * i + 1);
        }
        Check.is("the others are to come", shop.misfeed(0, 99), 281);
    }

    /** The burr of a stroke is that of the wear ahead of it: with a limit of 1, that of 99 is good, of 100 not. */
    private static void wearAhead() {
        for (int limit = 0; limit <= 3; limit++) {
            StrikeStrip shop = Shops.ready(10000);
            shop.revise(0, limit);
            int good = 50 * limit + 50;
            Check.is("all but one", shop.run(0, good - 1), good - 1);
            Check.is("the burr ahead of the last one", shop.burr(0), limit);
            Check.is("the last one is good", shop.run(0, 1), 1);
            Check.is("and does not end it", shop.ended(), 'd');
            Check.is("the burr behind it", shop.burr(0), limit + 1);
            Check.is("the next one is scrap", shop.run(0, 1), 0);
            Check.is("and ends it", shop.ended(), 'b');
            Check.is("scrap wears, too", shop.strokes(0), good + 1);
        }
        StrikeStrip shop = Shops.ready(10000);
        shop.misfeed(0, 49);
        Check.is("49 good ones", shop.run(0, 50), 49);
        Check.is("the 50th wears, though it is scrap", shop.burr(0), 1);
    }

    /** 4800 is not below 4800. */
    private static void wornOut() {
        StrikeStrip shop = Shops.ready(1000);
        for (int i = 0; i < 7; i++) {
            shop.regrind(0);
        }
        Check.is("the eighth time", shop.regrind(0), 4800);
        Check.is("the shims", shop.shims(0), 200);
        Check.is("it still makes parts", shop.run(0, 1), 1);
        Check.is("the ninth time", shop.regrind(0), 4775);
        Check.is("the shims then", shop.shims(0), 225);
        Check.refuses("it makes nothing more", STATE, () -> shop.run(0, 1));
        Check.refuses("there is no tenth time", UNSUPPORTED, () -> shop.regrind(0));
        Check.is("the shims stay", shop.shims(0), 225);
        shop.die(0, false);
        Check.is("another one has none", shop.shims(1), 0);
        Check.is("it can be reground", shop.regrind(1), 4975);
        Check.is("and be changed to", shop.change(1), 31);
        Check.is("and back to what is worn out", shop.change(0), 31);
        Check.refuses("which still makes nothing", STATE, () -> shop.run(0, 1));
    }

    private static void clearancesOnBothSides() {
        StrikeStrip shop = Shops.withDie(false);
        for (int clearance = 1; clearance <= 30; clearance++) {
            int due = clearance < 8 ? 8 - clearance : clearance - 8;
            Check.is("the burr at " + clearance, shop.clearance(0, clearance), due);
            Check.is("it stays", shop.burr(0), due);
        }
        StrikeStrip other = Shops.ready(1000);
        other.revise(0, 7);
        other.clearance(0, 1);
        Check.is("7 is not more than 7", other.run(0, 1), 1);
        other.clearance(0, 15);
        Check.is("nor on the other side", other.run(0, 1), 1);
        other.clearance(0, 16);
        Check.is("8 is", other.run(0, 1), 0);
        StrikeStrip first = Shops.ready(1000);
        first.clearance(0, 28);
        Check.is("20 is the limit at first", first.run(0, 1), 1);
        first.clearance(0, 29);
        Check.is("21 is more", first.run(0, 1), 0);
    }

    private static void misfeedsOfMadeStrokes() {
        StrikeStrip shop = Shops.ready(1000);
        Check.is("one that is next", shop.misfeed(0, 0), 1);
        shop.run(0, 1);
        Check.refuses("one that was made", ARGUMENT, () -> shop.misfeed(0, 0));
        Check.is("the next one", shop.misfeed(0, 1), 1);
        Check.is("one more", shop.misfeed(0, 3), 2);
        shop.run(0, 3);
        Check.is("it ended the run", shop.strokes(0), 2);
        Check.refuses("it was made", ARGUMENT, () -> shop.misfeed(0, 1));
        Check.refuses("it was told", ARGUMENT, () -> shop.misfeed(0, 3));
        Check.is("the next one again", shop.misfeed(0, 2), 2);
        shop.run(0, 3);
        shop.run(0, 3);
        Check.is("the strokes", shop.strokes(0), 4);
        Check.is("none but this is to come", shop.misfeed(0, 99999), 1);
        Check.is("that of another die is its own", shop.die(0, false) + shop.misfeed(1, 99999), 2);
    }
}
