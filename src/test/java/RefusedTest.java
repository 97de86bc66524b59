import java.util.NoSuchElementException;
import java.util.function.Supplier;
import java.util.function.ToLongFunction;

/**
 * A call that is refused throws just what is documented, and changes nothing that can be read, then or by further
 * calls: each one is made on a new shop, which is then compared with one that it was not made on. All promises.
 */
final class RefusedTest {
    private static final Class<IllegalArgumentException> ARGUMENT = IllegalArgumentException.class;
    private static final Class<IllegalStateException> STATE = IllegalStateException.class;
    private static final Class<IndexOutOfBoundsException> INDEX = IndexOutOfBoundsException.class;
    private static final Class<UnsupportedOperationException> UNSUPPORTED = UnsupportedOperationException.class;
    private static final Class<NoSuchElementException> NONE = NoSuchElementException.class;
    private static final Class<ArithmeticException> ARITHMETIC = ArithmeticException.class;
    private static final int LEAST = Integer.MIN_VALUE;
    private static final int MOST = Integer.MAX_VALUE;

    private static Supplier<StrikeStrip> maker;
    private static String untouched;

    public static void main(String[] args) {
        on(StrikeStrip::new);
        newShop();
        on(Shops::working);
        coils();
        shapes();
        bends();
        dies();
        press();
        running();
        scrap();
        on(Shops::full);
        full();
        on(RefusedTest::idle);
        idleShop();
        on(RefusedTest::wornOut);
        wornOutShop();
        Check.end();
    }

    private static void on(Supplier<StrikeStrip> next) {
        maker = next;
        untouched = told(next.get());
    }

    private static String told(StrikeStrip shop) {
        return Look.at(shop) + "\n-- then --\n" + Look.beyond(shop);
    }

    private static void refused(String what, Class<? extends RuntimeException> due, ToLongFunction<StrikeStrip> call) {
        StrikeStrip shop = maker.get();
        Check.refuses(what, due, () -> call.applyAsLong(shop));
        Check.isText("the shop behind " + what, told(shop), untouched);
    }

    private static long one(boolean answer) {
        return answer ? 1 : 0;
    }

    /** Nothing there yet: no coil, part, die, work, bend, stroke, good part. */
    private static void newShop() {
        for (int number : new int[] {LEAST, -1, 0, 1, 7, 8, 11, 12, MOST}) {
            refused("weld", INDEX, s -> s.weld(number, number));
            refused("left", INDEX, s -> s.left(number));
            refused("weight", INDEX, s -> s.weight(number));
            refused("draw", INDEX, s -> s.draw(number, 0, 0, 1, 1));
            refused("pitch", INDEX, s -> s.pitch(number, false));
            refused("height", INDEX, s -> s.height(number, true));
            refused("used", INDEX, s -> s.used(number, false));
            refused("revise", INDEX, s -> s.revise(number, 5));
            refused("bendAt", INDEX, s -> s.bendAt(number));
            refused("die", INDEX, s -> s.die(number, true));
            refused("work", INDEX, s -> s.work(number, 10, 150, 0));
            refused("behind", INDEX, s -> s.behind(number, 0, 1));
            refused("apart", INDEX, s -> one(s.apart(number, 0, 1)));
            refused("stations", INDEX, s -> s.stations(number));
            refused("stationOf", INDEX, s -> s.stationOf(number, 0));
            refused("overloads", INDEX, s -> s.overloads(number));
            refused("fingers", INDEX, s -> one(s.fingers(number, 0, 10)));
            refused("sensor", INDEX, s -> s.sensor(number, 10));
            refused("clearance", INDEX, s -> s.clearance(number, 10));
            refused("regrind", INDEX, s -> s.regrind(number));
            refused("shims", INDEX, s -> s.shims(number));
            refused("burr", INDEX, s -> s.burr(number));
            refused("misfeed", INDEX, s -> s.misfeed(number, 0));
            refused("change", INDEX, s -> s.change(number));
            refused("run", INDEX, s -> s.run(number, 1));
            refused("strokes", INDEX, s -> s.strokes(number));
            refused("stock", INDEX, s -> s.stock(number, 0));
            refused("call", INDEX, s -> s.call(number, 1, 1));
            refused("delivered", INDEX, s -> s.delivered(number));
            refused("missed", INDEX, s -> s.missed(number));
            refused("racks", INDEX, s -> s.racks(number));
        }
        refused("a bend without a profile", STATE, s -> s.bend(true, 1));
        refused("unfolded without a profile", STATE, s -> s.unfolded(0, 20));
        refused("goodShare without a stroke", ARITHMETIC, s -> (long) s.goodShare());
        refused("meanWeight without a good part", ARITHMETIC, s -> (long) s.meanWeight());
    }

    private static void coils() {
        for (int alloy : new int[] {LEAST, -1, 4, MOST}) {
            refused("coil of an alloy", ARGUMENT, s -> s.coil(alloy, 100, 40, 10));
        }
        for (int thickness : new int[] {LEAST, 19, 601, MOST}) {
            refused("coil of a thickness", ARGUMENT, s -> s.coil(0, thickness, 40, 10));
        }
        for (int width : new int[] {LEAST, 9, 501, MOST}) {
            refused("coil of a width", ARGUMENT, s -> s.coil(0, 100, width, 10));
        }
        for (int length : new int[] {LEAST, 0, 100001, MOST}) {
            refused("coil of a length", ARGUMENT, s -> s.coil(0, 100, 40, length));
        }
        for (int number : new int[] {LEAST, -1, 5, 12, MOST}) {
            refused("weld behind a coil", INDEX, s -> s.weld(number, 2));
            refused("weld of a coil", INDEX, s -> s.weld(0, number));
            refused("weld of none", INDEX, s -> s.weld(number, number));
            refused("left of a coil", INDEX, s -> s.left(number));
            refused("weight of a coil", INDEX, s -> s.weight(number));
        }
        refused("a weld with itself", UNSUPPORTED, s -> s.weld(0, 0));
        refused("a weld of what is used up with itself", UNSUPPORTED, s -> s.weld(1, 1));
        refused("a weld of what is used up", UNSUPPORTED, s -> s.weld(0, 1));
        refused("a weld behind what is used up", UNSUPPORTED, s -> s.weld(1, 0));
        refused("a weld of another alloy", UNSUPPORTED, s -> s.weld(0, 3));
        refused("a weld of 106 behind 101", UNSUPPORTED, s -> s.weld(4, 0));
    }

    private static void shapes() {
        for (int alloy : new int[] {LEAST, -1, 4, MOST}) {
            refused("part of an alloy", ARGUMENT, s -> s.part(alloy, 100));
        }
        for (int thickness : new int[] {LEAST, 19, 601, MOST}) {
            refused("part of a thickness", ARGUMENT, s -> s.part(0, thickness));
        }
        for (int number : new int[] {LEAST, -1, 3, 8, MOST}) {
            refused("draw of a part", INDEX, s -> s.draw(number, 0, 0, 1, 1));
            refused("pitch of a part", INDEX, s -> s.pitch(number, true));
            refused("height of a part", INDEX, s -> s.height(number, false));
            refused("used of a part", INDEX, s -> s.used(number, true));
            refused("revise of a part", INDEX, s -> s.revise(number, 20));
        }
        int[][] boxes = {{-1, 0, 1, 1}, {8, 0, 1, 1}, {0, -1, 1, 1}, {0, 8, 1, 1}, {0, 0, 0, 1}, {0, 0, 9, 1},
            {0, 0, 1, 0}, {0, 0, 1, 9}, {7, 0, 2, 1}, {0, 7, 1, 2}, {-1, 0, 2, 1}, {0, -1, 1, 2}, {1, 1, MOST, 1},
            {1, 1, 1, MOST}, {MOST, 0, MOST, 1}, {0, MOST, 1, MOST}, {LEAST, 0, MOST, 1}, {0, 0, LEAST, 1},
            {0, 0, 1, LEAST}, {0, LEAST, 1, 1}};
        for (int[] box : boxes) {
            refused("draw off the board", ARGUMENT, s -> s.draw(2, box[0], box[1], box[2], box[3]));
        }
        refused("draw of a part with a die", UNSUPPORTED, s -> s.draw(0, 0, 0, 1, 1));
        refused("draw of a part with a die, alone", UNSUPPORTED, s -> s.draw(1, 0, 0, 1, 1));
        for (boolean isPair : new boolean[] {false, true}) {
            refused("pitch of nothing", NONE, s -> s.pitch(2, isPair));
            refused("height of nothing", NONE, s -> s.height(2, isPair));
            refused("used of nothing", NONE, s -> s.used(2, isPair));
            refused("die of nothing", UNSUPPORTED, s -> s.die(2, isPair));
        }
        for (int limit : new int[] {LEAST, -1, 100, MOST}) {
            refused("revise with a limit", ARGUMENT, s -> s.revise(0, limit));
        }
    }

    private static void bends() {
        for (int length : new int[] {LEAST, 0, 10, MOST}) {
            refused("profile of a length", ARGUMENT, s -> s.profile(length));
            refused("bend with a length", ARGUMENT, s -> s.bend(true, length));
        }
        for (int place : new int[] {LEAST, -1, 3, 6, MOST}) {
            refused("bendAt a place", INDEX, s -> s.bendAt(place));
        }
        for (int place = 0; place < 3; place++) {
            int at = place;
            refused("bendAt of no order", NONE, s -> s.bendAt(at));
        }
        for (int radius : new int[] {LEAST, -1, 1000, MOST}) {
            refused("unfolded of a radius", ARGUMENT, s -> s.unfolded(radius, 100));
        }
        for (int thickness : new int[] {LEAST, 19, 601, MOST}) {
            refused("unfolded of a thickness", ARGUMENT, s -> s.unfolded(100, thickness));
        }
        int[][] cups = {{LEAST, 10}, {0, 10}, {1000, 10}, {MOST, 10}, {10, LEAST}, {10, -1}, {10, 1000}, {10, MOST}};
        for (int[] cup : cups) {
            refused("disc", ARGUMENT, s -> s.disc(cup[0], cup[1]));
            refused("draws", ARGUMENT, s -> s.draws(cup[0], cup[1], false));
            refused("draws, annealed", ARGUMENT, s -> s.draws(cup[0], cup[1], true));
        }
        int[][] angles = {{LEAST, 10}, {0, 10}, {18001, 10}, {MOST, 10}, {10, LEAST}, {10, -1}, {10, 301},
            {10, MOST}};
        for (int[] angle : angles) {
            refused("tried", ARGUMENT, s -> s.tried(angle[0], angle[1]));
            refused("tries", ARGUMENT, s -> s.tries(angle[0], angle[1]));
        }
    }

    private static void dies() {
        for (int number : new int[] {LEAST, -1, 3, 8, MOST}) {
            refused("die of a part", INDEX, s -> s.die(number, false));
            refused("work of a die", INDEX, s -> s.work(number, 10, 150, 0));
            refused("behind in a die", INDEX, s -> s.behind(number, 0, 1));
            refused("behind of a later work", INDEX, s -> s.behind(0, number, 0));
            refused("behind of an earlier work", INDEX, s -> s.behind(0, 2, number));
            refused("behind of no work", INDEX, s -> s.behind(0, number, number));
            refused("apart in a die", INDEX, s -> one(s.apart(number, 0, 1)));
            refused("apart of a work", INDEX, s -> one(s.apart(0, number, 0)));
            refused("apart of another work", INDEX, s -> one(s.apart(0, 1, number)));
            refused("apart of no work", INDEX, s -> one(s.apart(0, number, number)));
            refused("stations of a die", INDEX, s -> s.stations(number));
            refused("stationOf in a die", INDEX, s -> s.stationOf(number, 0));
            refused("stationOf a work", INDEX, s -> s.stationOf(0, number));
        }
        int[][] works = {{LEAST, 150, 0}, {0, 150, 0}, {401, 150, 0}, {MOST, 150, 0}, {10, LEAST, 0}, {10, 89, 0},
            {10, 181, 0}, {10, MOST, 0}, {10, 150, LEAST}, {10, 150, -100}, {10, 150, 100}, {10, 150, MOST}};
        for (int[] work : works) {
            refused("a work", ARGUMENT, s -> s.work(0, work[0], work[1], work[2]));
        }
        refused("a work of a die without works", INDEX, s -> s.stationOf(2, 0));
        refused("behind in a die without works", INDEX, s -> s.behind(2, 0, 1));
        refused("apart in a die without works", INDEX, s -> one(s.apart(2, 0, 1)));
        refused("behind itself", UNSUPPORTED, s -> s.behind(0, 2, 2));
        refused("behind one that is behind it", UNSUPPORTED, s -> s.behind(0, 0, 1));
        refused("apart from itself", UNSUPPORTED, s -> one(s.apart(0, 1, 1)));
    }

    private static void press() {
        for (int force : new int[] {LEAST, 9, 2001, MOST}) {
            refused("press", ARGUMENT, s -> s.press(force));
        }
        for (int degree : new int[] {LEAST, -1, 360, MOST}) {
            refused("bears", ARGUMENT, s -> s.bears(degree));
            refused("fingers from a degree", ARGUMENT, s -> one(s.fingers(0, degree, 10)));
            refused("fingers to a degree", ARGUMENT, s -> one(s.fingers(0, 10, degree)));
            refused("sensor", ARGUMENT, s -> s.sensor(0, degree));
        }
        for (int clearance : new int[] {LEAST, 0, 31, MOST}) {
            refused("clearance", ARGUMENT, s -> s.clearance(0, clearance));
        }
        for (int stroke : new int[] {LEAST, -1, 0, 10, 11, 60, 100000, MOST}) {
            refused("misfeed at a stroke", ARGUMENT, s -> s.misfeed(0, stroke));
        }
        refused("regrind of what is worn out", UNSUPPORTED, s -> s.regrind(2));
        for (int number : new int[] {LEAST, -1, 3, 8, MOST}) {
            refused("overloads of a die", INDEX, s -> s.overloads(number));
            refused("fingers in a die", INDEX, s -> one(s.fingers(number, 0, 10)));
            refused("sensor of a die", INDEX, s -> s.sensor(number, 10));
            refused("clearance of a die", INDEX, s -> s.clearance(number, 10));
            refused("regrind of a die", INDEX, s -> s.regrind(number));
            refused("shims of a die", INDEX, s -> s.shims(number));
            refused("burr of a die", INDEX, s -> s.burr(number));
            refused("misfeed of a die", INDEX, s -> s.misfeed(number, 70));
        }
    }

    private static void running() {
        for (int number : new int[] {LEAST, -1, 3, 8, MOST}) {
            refused("change to a die", INDEX, s -> s.change(number));
            refused("strokes of a die", INDEX, s -> s.strokes(number));
            refused("stock of a part", INDEX, s -> s.stock(number, 0));
            refused("call of a part", INDEX, s -> s.call(number, 5, 500));
            refused("delivered of a part", INDEX, s -> s.delivered(number));
            refused("missed of a part", INDEX, s -> s.missed(number));
            refused("racks of a part", INDEX, s -> s.racks(number));
        }
        refused("change to one that does not suit", UNSUPPORTED, s -> s.change(1));
        for (int number : new int[] {LEAST, -1, 5, 12, MOST}) {
            refused("run of a coil", INDEX, s -> s.run(number, 1));
        }
        for (int strokes : new int[] {LEAST, 0, 601, MOST}) {
            refused("run of strokes", ARGUMENT, s -> s.run(0, strokes));
        }
        refused("run of what is used up", UNSUPPORTED, s -> s.run(1, 1));
        refused("run of another alloy", UNSUPPORTED, s -> s.run(3, 1));
        refused("run of a thicker coil", UNSUPPORTED, s -> s.run(4, 1));
        for (int revision : new int[] {LEAST, -1, 2, MOST}) {
            refused("stock of a revision", INDEX, s -> s.stock(0, revision));
        }
        for (int count : new int[] {LEAST, 0, 201, MOST}) {
            refused("call of a count", ARGUMENT, s -> s.call(0, count, 500));
        }
        // It is the minute 34.
        for (int minute : new int[] {LEAST, -1, 0, 33, 34}) {
            refused("call at a minute", ARGUMENT, s -> s.call(0, 5, minute));
        }
        for (int minutes : new int[] {LEAST, -1, 0, 1001, MOST}) {
            refused("pass", ARGUMENT, s -> s.pass(minutes));
        }
    }

    private static void scrap() {
        for (int alloy : new int[] {LEAST, -1, 4, MOST}) {
            refused("scrap", ARGUMENT, s -> s.scrap(alloy));
            refused("price of an alloy", ARGUMENT, s -> s.price(alloy, 50));
            refused("sell", ARGUMENT, s -> s.sell(alloy));
        }
        for (int cents : new int[] {LEAST, -1, 10000, MOST}) {
            refused("price of cents", ARGUMENT, s -> s.price(0, cents));
        }
    }

    /** As many as there can be. */
    private static void full() {
        refused("a 13th coil", STATE, s -> s.coil(0, 100, 40, 10));
        refused("a 9th part", STATE, s -> s.part(0, 100));
        refused("a 7th bend", STATE, s -> s.bend(true, 1));
        refused("a 9th die", STATE, s -> s.die(0, false));
        refused("a 9th die, of a part without one", STATE, s -> s.die(6, true));
        refused("a 9th die of nothing", UNSUPPORTED, s -> s.die(7, true));
        refused("a 9th work", STATE, s -> s.work(0, 400, 90, 99));
        for (int work = 0; work < 8; work++) {
            int same = work;
            refused("a work of eight behind itself", UNSUPPORTED, s -> s.behind(0, same, same));
            refused("a work of eight apart from itself", UNSUPPORTED, s -> one(s.apart(0, same, same)));
        }
        refused("a 41st call", STATE, s -> s.call(0, 1, 500));
        refused("coil 12", INDEX, s -> s.left(12));
        refused("part 8", INDEX, s -> s.racks(8));
        refused("die 8", INDEX, s -> s.shims(8));
        refused("work 8", INDEX, s -> s.stationOf(0, 8));
        refused("place 6", INDEX, s -> s.bendAt(6));
    }

    /** No die is in, but there are a coil and a part; the die suits the press. */
    private static StrikeStrip idle() {
        StrikeStrip shop = Shops.withDie(false);
        shop.coil(0, 100, 15, 100);
        shop.profile(3);
        return shop;
    }

    private static void idleShop() {
        refused("a run without a die", STATE, s -> s.run(0, 1));
        refused("a bend at the first place", INDEX, s -> s.bendAt(0));
        refused("goodShare without a stroke", ARITHMETIC, s -> (long) s.goodShare());
        refused("meanWeight without a good part", ARITHMETIC, s -> (long) s.meanWeight());
    }

    /** The die that is in is worn out; coil 0 goes with its part. */
    private static StrikeStrip wornOut() {
        StrikeStrip shop = Shops.working();
        for (int i = 0; i < 9; i++) {
            shop.regrind(0);
        }
        return shop;
    }

    private static void wornOutShop() {
        refused("a run of what is worn out", STATE, s -> s.run(0, 1));
        refused("a regrind of it", UNSUPPORTED, s -> s.regrind(0));
    }
}
