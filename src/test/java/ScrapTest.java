/** Promises 46 to 51. */
final class ScrapTest {
    private static final Class<IllegalArgumentException> ARGUMENT = IllegalArgumentException.class;
    private static final Class<ArithmeticException> ARITHMETIC = ArithmeticException.class;

    public static void main(String[] args) {
        refusals();
        alloys();
        selling();
        shares();
        means();
        soundness();
        Check.end();
    }

    private static void refusals() {
        StrikeStrip shop = new StrikeStrip();
        for (int alloy : new int[] {-1, 4, Integer.MAX_VALUE, Integer.MIN_VALUE}) {
            Check.refuses("scrap", ARGUMENT, () -> shop.scrap(alloy));
            Check.refuses("price", ARGUMENT, () -> shop.price(alloy, 100));
            Check.refuses("sell", ARGUMENT, () -> shop.sell(alloy));
        }
        Check.refuses("cents -1", ARGUMENT, () -> shop.price(0, -1));
        Check.refuses("cents 10000", ARGUMENT, () -> shop.price(0, 10000));
        Check.refuses("no share", ARITHMETIC, () -> (long) shop.goodShare());
        Check.refuses("no mean", ARITHMETIC, () -> (long) shop.meanWeight());
        for (int alloy = 0; alloy < 4; alloy++) {
            Check.is("the first price", shop.price(alloy, 0), 100);
            Check.is("the least", shop.price(alloy, 9999), 0);
            Check.is("the greatest", shop.price(alloy, 7), 9999);
            Check.is("no scrap", shop.scrap(alloy), 0);
            Check.is("nothing to sell", shop.sell(alloy), 0);
        }
    }

    private static void alloys() {
        StrikeStrip shop = new StrikeStrip();
        int[] factors = {785, 270, 896, 850};
        for (int alloy = 0; alloy < 4; alloy++) {
            shop.part(alloy, 101);
            shop.draw(alloy, 0, 0, 1, 1);
            shop.die(alloy, false);
            shop.coil(alloy, 103, 17, 100);
            shop.change(alloy);
            shop.run(alloy, 3);
        }
        for (int alloy = 0; alloy < 4; alloy++) {
            long due = (30L * 17 - 3 * 25) * 103 * factors[alloy];
            Check.is("the scrap of an alloy", shop.scrap(alloy), due / 10000);
            Check.is("its coil", shop.weight(alloy), 70L * 17 * 103 * factors[alloy] / 10000);
        }
        Check.isTrue("sound", shop.isSound());
    }

    private static void selling() {
        StrikeStrip shop = Shops.withDie(false);
        shop.coil(0, 100, 500, 100000);
        shop.change(0);
        shop.run(0, 254);
        long each = (10L * 500 - 25) * 100 * 785;
        Check.is("less than ten kilograms", shop.scrap(0), 254 * each / 10000);
        shop.price(0, 123);
        Check.is("nine of them", shop.sell(0), 9 * 123);
        Check.is("the rest", shop.scrap(0), 254 * each / 10000 - 9000000);
        Check.is("nothing more", shop.sell(0), 0);
        Check.isTrue("sound", shop.isSound());
        shop.run(0, 254);
        shop.price(0, 0);
        Check.is("at no price", shop.sell(0), 0);
        Check.is("they are sold, too", shop.scrap(0), 508 * each / 10000 - 19000000);
        Check.isTrue("sound again", shop.isSound());
        // A cell of 40 by 5 out of 40 by 15 leaves a whole number of kilograms: none less is sold.
        StrikeStrip whole = new StrikeStrip();
        whole.part(3, 400);
        whole.draw(0, 0, 0, 1, 1);
        whole.die(0, false);
        whole.coil(3, 400, 500, 100000);
        whole.change(0);
        whole.clearance(0, 30);
        long stroke = 10L * 500 * 400 * 850;
        for (int i = 1; i <= 100; i++) {
            Check.is("scrap by a burr", whole.run(0, 1), 0);
        }
        Check.is("just 17 kilograms", whole.scrap(3), 100 * stroke / 10000);
        Check.is("17 of them", whole.sell(3), 1700);
        Check.is("nothing is left", whole.scrap(3), 0);
    }

    private static void shares() {
        StrikeStrip shop = Shops.ready(1000);
        shop.misfeed(0, 2);
        shop.run(0, 5);
        Check.isReal("two of three", shop.goodShare(), (float) 2 / (float) 3);
        shop.die(0, true);
        shop.coil(0, 100, 25, 1000);
        shop.change(1);
        shop.run(1, 4);
        Check.isReal("strokes, not parts", shop.goodShare(), (float) 6 / (float) 7);
        StrikeStrip none = Shops.ready(1000);
        none.misfeed(0, 0);
        none.run(0, 1);
        Check.isReal("none of one", none.goodShare(), 0);
        Check.refuses("no good part", ARITHMETIC, () -> (long) none.meanWeight());
    }

    private static void means() {
        StrikeStrip shop = new StrikeStrip();
        shop.part(0, 101);
        shop.draw(0, 0, 0, 1, 1);
        shop.die(0, false);
        shop.coil(0, 101, 15, 1000);
        shop.change(0);
        shop.run(0, 3);
        // Each weighs 198.2125: the sum is told as 594.
        Check.isReal("the mean", shop.meanWeight(), 594.0 / 3.0);
        shop.part(1, 200);
        shop.draw(1, 0, 0, 2, 1);
        shop.die(1, true);
        shop.coil(1, 203, 500, 1000);
        shop.change(1);
        shop.run(1, 2);
        long sum = 3L * 25 * 101 * 785 + 4L * 50 * 203 * 270;
        Check.isReal("of all alloys", shop.meanWeight(), (double) (sum / 10000) / (double) 7);
    }

    private static void soundness() {
        StrikeStrip shop = Shops.ready(1000);
        shop.work(0, 20, 170, 0);
        shop.work(0, 20, 170, 0);
        shop.behind(0, 0, 1);
        Check.isTrue("ahead of a run", shop.isSound());
        shop.run(0, 33);
        Check.isTrue("behind it", shop.isSound());
        shop.call(0, 20, 100);
        shop.pass(1000);
        Check.isTrue("parts that are delivered count", shop.isSound());
        shop.sell(0);
        shop.apart(0, 0, 1);
        Check.isTrue("and what is sold", shop.isSound());
    }
}
