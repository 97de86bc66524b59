import java.util.NoSuchElementException;
import java.util.function.Supplier;

/**
 * For each number that a call takes: the least and the greatest one that are taken, with what they do, and the first
 * ones on either side that are refused. All promises with numbers.
 */
final class RangeTest {
    private static final Class<IllegalArgumentException> ARGUMENT = IllegalArgumentException.class;
    private static final Class<IndexOutOfBoundsException> INDEX = IndexOutOfBoundsException.class;
    private static final Class<NoSuchElementException> NONE = NoSuchElementException.class;
    private static final int MOST = Integer.MAX_VALUE;

    private interface Ask {
        long of(StrikeStrip shop, int number);
    }

    private static Supplier<StrikeStrip> maker;

    public static void main(String[] args) {
        maker = StrikeStrip::new;
        coils();
        parts();
        boxes();
        bends();
        lengths();
        cups();
        springs();
        maker = () -> Shops.withDie(false);
        works();
        press();
        tools();
        maker = () -> Shops.ready(100000);
        runs();
        calls();
        scrap();
        maker = RangeTest::shopOfParts;
        eightParts();
        maker = Shops::full;
        twelveCoils();
        numbersOfDiesAndWorks();
        numbersInRuns();
        Check.end();
    }

    private static void range(String what, int least, long atLeast, int most, long atMost,
            Class<? extends RuntimeException> due, Ask ask) {
        Check.is(what + " at " + least, ask.of(maker.get(), least), atLeast);
        Check.is(what + " at " + most, ask.of(maker.get(), most), atMost);
        Check.refuses(what + " below " + least, due, () -> ask.of(maker.get(), least - 1));
        Check.refuses(what + " far below " + least, due, () -> ask.of(maker.get(), Integer.MIN_VALUE));
        if (most < MOST) {
            Check.refuses(what + " above " + most, due, () -> ask.of(maker.get(), most + 1));
            Check.refuses(what + " far above " + most, due, () -> ask.of(maker.get(), MOST));
        }
    }

    /** Promise 2; the answers are weights. */
    private static void coils() {
        range("coil: alloy", 0, 785, 3, 850, ARGUMENT, (s, n) -> {
            s.coil(n, 100, 10, 10);
            return s.weight(0);
        });
        range("coil: thickness", 20, 170, 600, 5100, ARGUMENT, (s, n) -> {
            s.coil(3, n, 10, 10);
            return s.weight(0);
        });
        range("coil: width", 10, 850, 500, 42500, ARGUMENT, (s, n) -> {
            s.coil(3, 100, n, 10);
            return s.weight(0);
        });
        range("coil: length", 1, 1, 100000, 100000, ARGUMENT, (s, n) -> {
            s.coil(3, 100, 10, n);
            return s.left(0);
        });
        range("coil: its number", 20, 0, 600, 0, ARGUMENT, (s, n) -> s.coil(3, n, 10, 10));
    }

    /** Promises 6 and 11; the answers are good parts of a coil of this alloy and thickness. */
    private static void parts() {
        range("part: alloy", 0, 1, 3, 1, ARGUMENT, (s, n) -> made(s, n, 100));
        range("part: thickness", 20, 1, 600, 1, ARGUMENT, (s, n) -> made(s, 0, n));
        range("part: its number", 20, 0, 600, 0, ARGUMENT, (s, n) -> s.part(0, n));
        range("revise: limit", 0, 1, 99, 1, ARGUMENT, (s, n) -> {
            s.part(0, 100);
            return s.revise(0, n);
        });
        range("stock: revision", 0, 0, 0, 0, INDEX, (s, n) -> {
            s.part(0, 100);
            return s.stock(0, n);
        });
        range("stock: revision of three", 0, 0, 2, 0, INDEX, (s, n) -> {
            s.part(0, 100);
            s.revise(0, 20);
            s.revise(0, 20);
            return s.stock(0, n);
        });
    }

    private static long made(StrikeStrip shop, int alloy, int thickness) {
        shop.part(alloy, thickness);
        shop.coil(alloy, thickness, 15, 10);
        shop.draw(0, 0, 0, 1, 1);
        shop.die(0, false);
        shop.change(0);
        return shop.run(0, 1);
    }

    /** Promise 7. */
    private static void boxes() {
        range("draw: x of a cell", 0, 1, 7, 1, ARGUMENT, (s, n) -> drawn(s, n, 3, 1, 1));
        range("draw: y of a cell", 0, 1, 7, 1, ARGUMENT, (s, n) -> drawn(s, 3, n, 1, 1));
        range("draw: x of three columns", 0, 3, 5, 3, ARGUMENT, (s, n) -> drawn(s, n, 3, 3, 1));
        range("draw: y of three rows", 0, 3, 5, 3, ARGUMENT, (s, n) -> drawn(s, 3, n, 1, 3));
        range("draw: x of all columns", 0, 8, 0, 8, ARGUMENT, (s, n) -> drawn(s, n, 0, 8, 1));
        range("draw: y of all rows", 0, 8, 0, 8, ARGUMENT, (s, n) -> drawn(s, 0, n, 1, 8));
        for (int first = 0; first < 8; first++) {
            int from = first;
            range("draw: columns", 1, 2, 8 - from, 16 - 2 * from, ARGUMENT, (s, n) -> drawn(s, from, 1, n, 2));
            range("draw: rows", 1, 2, 8 - from, 16 - 2 * from, ARGUMENT, (s, n) -> drawn(s, 1, from, 2, n));
        }
    }

    private static long drawn(StrikeStrip shop, int x, int y, int columns, int rows) {
        shop.part(0, 100);
        return shop.draw(0, x, y, columns, rows);
    }

    /** Promises 12 to 14. */
    private static void bends() {
        range("profile: length", 1, 100, 9, 900, ARGUMENT, (s, n) -> {
            s.profile(n);
            return s.unfolded(0, 20);
        });
        range("profile: its answer", 1, 0, 9, 0, ARGUMENT, (s, n) -> s.profile(n));
        range("bend: length", 1, 212, 9, 1012, ARGUMENT, (s, n) -> {
            s.profile(1);
            s.bend(true, n);
            return s.unfolded(0, 20);
        });
        range("bend: its answer", 1, 1, 9, 1, ARGUMENT, (s, n) -> {
            s.profile(1);
            return s.bend(false, n);
        });
        for (int bends = 1; bends <= 6; bends++) {
            int count = bends;
            range("bendAt of " + bends, 0, 0, bends - 1, bends - 1, INDEX, (s, n) -> {
                stair(s, count);
                return s.bendAt(n);
            });
        }
        StrikeStrip shop = new StrikeStrip();
        Check.refuses("bendAt 0 of no profile", INDEX, () -> shop.bendAt(0));
        shop.profile(1);
        Check.refuses("bendAt 0 of no bend", INDEX, () -> shop.bendAt(0));
        square(shop, 2);
        Check.refuses("bendAt -1 of no order", INDEX, () -> shop.bendAt(-1));
        Check.refuses("bendAt 0 of no order", NONE, () -> shop.bendAt(0));
        Check.refuses("bendAt 2 of no order", NONE, () -> shop.bendAt(2));
        Check.refuses("bendAt 3 of no order", INDEX, () -> shop.bendAt(3));
    }

    private static void stair(StrikeStrip shop, int bends) {
        shop.profile(2);
        for (int i = 0; i < bends; i++) {
            shop.bend(i % 2 == 0, 2);
        }
    }

    /** Four stretches, of which the last one comes back to the beginning if it is 2 long. */
    private static void square(StrikeStrip shop, int last) {
        shop.profile(2);
        shop.bend(true, 2);
        shop.bend(true, 2);
        shop.bend(true, last);
    }

    /** Promise 15. */
    private static void lengths() {
        range("unfolded: radius", 0, 412, 999, 1980, ARGUMENT, (s, n) -> {
            stair(s, 1);
            return s.unfolded(n, 20);
        });
        range("unfolded: thickness", 20, 412, 600, 776, ARGUMENT, (s, n) -> {
            stair(s, 1);
            return s.unfolded(0, n);
        });
    }

    /** Promises 16 and 17. */
    private static void cups() {
        range("disc: diameter", 1, 21, 999, 1188, ARGUMENT, (s, n) -> s.disc(n, 103));
        range("disc: height", 0, 7, 999, 168, ARGUMENT, (s, n) -> s.disc(7, n));
        for (boolean isAnnealed : new boolean[] {false, true}) {
            range("draws: diameter", 1, 4, 999, 1, ARGUMENT, (s, n) -> s.draws(n, 9, isAnnealed));
            range("draws: height", 0, 0, 999, 2, ARGUMENT, (s, n) -> s.draws(999, n, isAnnealed));
        }
    }

    /** Promises 18 and 19. */
    private static void springs() {
        range("tried: angle", 1, 1, 18000, 25713, ARGUMENT, (s, n) -> s.tried(n, 300));
        range("tried: spring", 0, 18000, 300, 25713, ARGUMENT, (s, n) -> s.tried(18000, n));
        range("tries: angle", 1, 1, 18000, 9, ARGUMENT, (s, n) -> s.tries(n, 300));
        range("tries: spring", 0, 1, 300, 9, ARGUMENT, (s, n) -> s.tries(18000, n));
    }

    /** Promise 21. */
    private static void works() {
        range("work: force", 1, -1, 400, 180, ARGUMENT, (s, n) -> {
            s.work(0, n, 180, 0);
            return s.overloads(0);
        });
        range("work: degree", 90, 90, 180, 180, ARGUMENT, (s, n) -> {
            s.work(0, 300, n, 0);
            return s.overloads(0);
        });
        range("work: place", -99, 180, 99, 180, ARGUMENT, (s, n) -> {
            s.work(0, 10, 180, n);
            return s.overloads(0);
        });
        range("work: its number", 1, 0, 400, 0, ARGUMENT, (s, n) -> s.work(0, n, 90, 0));
    }

    /** Promises 26, 27 and 29. */
    private static void press() {
        range("press: force", 10, 10, 2000, 2000, ARGUMENT, (s, n) -> {
            s.press(n);
            return s.bears(180);
        });
        range("press: its answer", 10, 200, 2000, 200, ARGUMENT, (s, n) -> s.press(n));
        range("bears: degree", 0, 33, 359, 33, ARGUMENT, (s, n) -> s.bears(n));
        range("fingers: from", 0, 1, 359, 1, ARGUMENT, (s, n) -> s.fingers(0, n, 60) ? 1 : 0);
        range("fingers: to", 0, 1, 359, 1, ARGUMENT, (s, n) -> s.fingers(0, 300, n) ? 1 : 0);
    }

    /** Promises 30, 31 and 35. */
    private static void tools() {
        range("sensor: degree", 0, 0, 359, 359, ARGUMENT, (s, n) -> {
            s.sensor(0, n);
            return s.sensor(0, 90);
        });
        range("sensor: its answer", 0, 90, 359, 90, ARGUMENT, (s, n) -> s.sensor(0, n));
        range("clearance", 1, 7, 30, 22, ARGUMENT, (s, n) -> s.clearance(0, n));
        range("misfeed: stroke", 0, 1, 99999, 1, ARGUMENT, (s, n) -> s.misfeed(0, n));
        range("misfeed: stroke behind 5", 5, 1, 99999, 1, ARGUMENT, (s, n) -> {
            s.coil(0, 100, 15, 100);
            s.change(0);
            s.run(0, 5);
            return s.misfeed(0, n);
        });
    }

    /** Promise 37. */
    private static void runs() {
        range("run: strokes", 1, 1, 600, 600, ARGUMENT, (s, n) -> s.run(0, n));
        range("run: its minutes", 1, 30, 600, 49, ARGUMENT, (s, n) -> {
            s.run(0, n);
            return s.pass(1);
        });
    }

    /** Promises 41 and 42; the die was changed to, so that it is the minute 28. */
    private static void calls() {
        range("call: count", 1, 1, 200, 200, ARGUMENT, (s, n) -> {
            s.call(0, n, 30);
            s.pass(2);
            return s.missed(0);
        });
        range("call: minute", 29, 1, MOST, 1, ARGUMENT, (s, n) -> s.call(0, 1, n));
        range("call: minute of a new shop", 1, 1, MOST, 1, ARGUMENT, (s, n) -> {
            StrikeStrip shop = new StrikeStrip();
            shop.part(0, 100);
            return shop.call(0, 1, n);
        });
        range("pass", 1, 29, 1000, 1028, ARGUMENT, (s, n) -> s.pass(n));
        range("pass of a new shop", 1, 1, 1000, 1000, ARGUMENT, (s, n) -> new StrikeStrip().pass(n));
    }

    /** Promises 46 to 48. */
    private static void scrap() {
        range("scrap: alloy", 0, 0, 3, 0, ARGUMENT, (s, n) -> s.scrap(n));
        range("sell: alloy", 0, 0, 3, 0, ARGUMENT, (s, n) -> s.sell(n));
        range("price: alloy", 0, 100, 3, 100, ARGUMENT, (s, n) -> s.price(n, 50));
        range("price: cents", 0, 0, 9999, 9999, ARGUMENT, (s, n) -> {
            s.price(1, n);
            return s.price(1, 50);
        });
        range("price: its answer", 0, 100, 9999, 100, ARGUMENT, (s, n) -> s.price(1, n));
    }

    /** Promises 3 to 5, with 12 coils of 30 to 41. */
    private static void twelveCoils() {
        range("weld behind a coil", 0, 35 + 30, 11, 35 + 41, INDEX, (s, n) -> s.weld(n, 5));
        range("weld of a coil", 0, 35 + 30, 11, 35 + 41, INDEX, (s, n) -> s.weld(5, n));
        range("left", 0, 30, 11, 41, INDEX, (s, n) -> s.left(n));
        range("weight", 0, 9420, 11, 12874, INDEX, (s, n) -> s.weight(n));
    }

    /** Promises 7 to 11, 20. */
    private static void eightParts() {
        range("draw in a part", 0, 3, 7, 17, INDEX, (s, n) -> s.draw(n, 3, 2, 1, 2));
        range("pitch", 0, 2, 7, 9, INDEX, (s, n) -> s.pitch(n, false));
        range("pitch of a pair", 0, 2, 7, 9, INDEX, (s, n) -> s.pitch(n, true));
        range("height", 0, 3, 7, 4, INDEX, (s, n) -> s.height(n, false));
        range("height of a pair", 0, 5, 7, 7, INDEX, (s, n) -> s.height(n, true));
        range("used", 0, 166, 7, 416, INDEX, (s, n) -> s.used(n, false));
        range("used of a pair", 0, 200, 7, 476, INDEX, (s, n) -> s.used(n, true));
        range("revise", 0, 1, 7, 1, INDEX, (s, n) -> s.revise(n, 20));
        range("die for a part", 0, 0, 7, 0, INDEX, (s, n) -> s.die(n, false));
        range("die for a part in pairs", 0, 0, 7, 0, INDEX, (s, n) -> s.die(n, true));
    }

    /** 8 parts without dies, from one of a cell on to one of two rows of 8, less a cell. */
    private static StrikeStrip shopOfParts() {
        StrikeStrip shop = new StrikeStrip();
        for (int i = 0; i < 8; i++) {
            shop.part(0, 100);
            shop.draw(i, 0, 0, i + 1, 1);
            shop.draw(i, 0, 0, Math.max(i, 1), i == 0 ? 1 : 2);
        }
        return shop;
    }

    /** Promises 21 to 25, 28 to 36, 39, with 8 dies and 8 works in the first one. */
    private static void numbersOfDiesAndWorks() {
        range("work in a die", 0, 1, 7, 1, INDEX, (s, n) -> {
            StrikeStrip shop = Shops.withDie(false);
            for (int i = 1; i < 8; i++) {
                shop.die(0, true);
            }
            shop.work(n, 10, 180, 0);
            return shop.work(n, 10, 180, 0);
        });
        range("behind in a die", 0, 1, 0, 1, INDEX, (s, n) -> s.behind(n, 1, 0));
        range("behind of a later work", 0, 1, 7, 1, INDEX, (s, n) -> s.behind(0, n, 3));
        range("behind of an earlier work", 0, 1, 7, 1, INDEX, (s, n) -> s.behind(0, 3, n));
        range("apart of a work", 0, 1, 7, 1, INDEX, (s, n) -> s.apart(0, n, 3) ? 1 : 0);
        range("apart of another work", 0, 1, 7, 1, INDEX, (s, n) -> s.apart(0, 3, n) ? 1 : 0);
        range("stations", 0, 1, 7, 0, INDEX, (s, n) -> s.stations(n));
        range("stationOf", 0, 0, 7, 0, INDEX, (s, n) -> s.stationOf(0, n));
        range("stationOf in a die", 0, 0, 0, 0, INDEX, (s, n) -> s.stationOf(n, 0));
        range("overloads", 0, -1, 7, -1, INDEX, (s, n) -> s.overloads(n));
        range("fingers", 0, 1, 7, 1, INDEX, (s, n) -> s.fingers(n, 0, 0) ? 1 : 0);
        range("sensor", 0, 90, 7, 90, INDEX, (s, n) -> s.sensor(n, 1));
        range("clearance of a die", 0, 1, 7, 1, INDEX, (s, n) -> s.clearance(n, 9));
        range("regrind", 0, 4975, 7, 4975, INDEX, (s, n) -> s.regrind(n));
        range("shims", 0, 0, 7, 0, INDEX, (s, n) -> s.shims(n));
        range("burr", 0, 0, 7, 0, INDEX, (s, n) -> s.burr(n));
        range("misfeed of a die", 0, 1, 7, 1, INDEX, (s, n) -> s.misfeed(n, 4));
        range("change", 0, 28, 7, 28, INDEX, (s, n) -> s.change(n));
        range("strokes", 0, 0, 7, 0, INDEX, (s, n) -> s.strokes(n));
    }

    /** Promises 37, 40, 41, 43 to 45, with 12 coils, of 30 to 41, and 8 parts. */
    private static void numbersInRuns() {
        range("run of a coil", 0, 3, 11, 4, INDEX, (s, n) -> {
            s.change(1);
            return s.run(n, 600);
        });
        range("stock", 0, 0, 7, 0, INDEX, (s, n) -> s.stock(n, 0));
        range("call", 0, 40, 7, 40, INDEX, (s, n) -> {
            s.pass(100);
            return s.call(n, 1, 200);
        });
        range("delivered", 0, 0, 7, 0, INDEX, (s, n) -> s.delivered(n));
        range("missed", 0, 1, 7, 8, INDEX, (s, n) -> {
            s.pass(107);
            return s.missed(n);
        });
        range("racks", 0, 20, 7, 20, INDEX, (s, n) -> s.racks(n));
    }
}
