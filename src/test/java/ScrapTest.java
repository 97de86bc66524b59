/** Promises 46 to 51. */
final class ScrapTest {
    private static final Class<IllegalArgumentException> ARGUMENT = IllegalArgumentException.class;
    private static final Class<ArithmeticException> ARITHMETIC = ArithmeticException.class;

    public static void main(String[] args) {
        refusals();
        alloys();
        selling();
        shares();
        means();
        soundness();
        kilogramEdges();
        partsOfAMilligram();
        scrapStrokes();
        nothingYet();
        Check.end();
    }

    private static void refusals() {
        StrikeStrip shop = new StrikeStrip();
        for (int alloy : new int[] {-1, 4, Integer.MAX_VALUE, Integer.MIN_VALUE}) {
            Check.refuses("scrap", ARGUMENT, () -> shop.scrap(alloy));
            Check.refuses("price", ARGUMENT, () -> shop.price(alloy, 100));
            Check.refuses("sell", ARGUMENT, () -> shop.sell(alloy));
        }
        Check.refuses("cents -1", ARGUMENT, () -> shop.price(0, -1));
        Check.refuses("cents 10000", ARGUMENT, () -> shop.price(0, 10000));
        Check.refuses("no share", ARITHMETIC, () -> (long) shop.goodShare());
        Check.refuses("no mean", ARITHMETIC, () -> (long) shop.meanWeight());
        for (int alloy = 0; alloy < 4; alloy++) {
            Check.is("the first price", shop.price(alloy, 0), 100);
            Check.is("the least", shop.price(alloy, 9999), 0);
            Check.is("the greatest", shop.price(alloy, 7), 9999);
            Check.is("no scrap", shop.scrap(alloy), 0);
            Check.is("nothing to sell", shop.sell(alloy), 0);
        }
    }

    private static void alloys() {
        StrikeStrip shop = new StrikeStrip();
        int[] factors = {785, 270, 896, 850};
        for (int alloy = 0; alloy < 4; alloy++) {
            shop.part(alloy, 101);
            shop.draw(alloy, 0, 0, 1, 1);
            shop.die(alloy, false);
            shop.coil(alloy, 103, 17, 100);
            shop.change(alloy);
            shop.run(alloy, 3);
        }
        for (int alloy = 0; alloy < 4; alloy++) {
            long due = (30L * 17 - 3 * 25) * 103 * factors[alloy];
            Check.is("the scrap of an alloy", shop.scrap(alloy), due / 10000);
            Check.is("its coil", shop.weight(alloy), 70L * 17 * 103 * factors[alloy] / 10000);
        }
        Check.isTrue("sound", shop.isSound());
    }

    private static void selling() {
        StrikeStrip shop = Shops.withDie(false);
        shop.coil(0, 100, 500, 100000);
        shop.change(0);
        shop.run(0, 254);
        long each = (10L * 500 - 25) * 100 * 785;
        Check.is("less than ten kilograms", shop.scrap(0), 254 * each / 10000);
        shop.price(0, 123);
        Check.is("nine of them", shop.sell(0), 9 * 123);
        Check.is("the rest", shop.scrap(0), 254 * each / 10000 - 9000000);
        Check.is("nothing more", shop.sell(0), 0);
        Check.isTrue("sound", shop.isSound());
        shop.run(0, 254);
        shop.price(0, 0);
        Check.is("at no price", shop.sell(0), 0);
        Check.is("they are sold, too", shop.scrap(0), 508 * each / 10000 - 19000000);
        Check.isTrue("sound again", shop.isSound());
        // A cell of 40 by 5 out of 40 by 15 leaves a whole number of kilograms: none less is sold.
        StrikeStrip whole = new StrikeStrip();
        whole.part(3, 400);
        whole.draw(0, 0, 0, 1, 1);
        whole.die(0, false);
        whole.coil(3, 400, 500, 100000);
        whole.change(0);
        whole.clearance(0, 30);
        long stroke = 10L * 500 * 400 * 850;
        for (int i = 1; i <= 100; i++) {
            Check.is("scrap by a burr", whole.run(0, 1), 0);
        }
        Check.is("just 17 kilograms", whole.scrap(3), 100 * stroke / 10000);
        Check.is("17 of them", whole.sell(3), 1700);
        Check.is("nothing is left", whole.scrap(3), 0);
    }

    private static void shares() {
        StrikeStrip shop = Shops.ready(1000);
        shop.misfeed(0, 2);
        shop.run(0, 5);
        Check.isReal("two of three", shop.goodShare(), (float) 2 / (float) 3);
        shop.die(0, true);
        shop.coil(0, 100, 25, 1000);
        shop.change(1);
        shop.run(1, 4);
        Check.isReal("strokes, not parts", shop.goodShare(), (float) 6 / (float) 7);
        StrikeStrip none = Shops.ready(1000);
        none.misfeed(0, 0);
        none.run(0, 1);
        Check.isReal("none of one", none.goodShare(), 0);
        Check.refuses("no good part", ARITHMETIC, () -> (long) none.meanWeight());
    }

    private static void means() {
        StrikeStrip shop = new StrikeStrip();
        shop.part(0, 101);
        shop.draw(0, 0, 0, 1, 1);
        shop.die(0, false);
        shop.coil(0, 101, 15, 1000);
        shop.change(0);
        shop.run(0, 3);
        // Each weighs 198.2125: the sum is told as 594.
        Check.isReal("the mean", shop.meanWeight(), 594.0 / 3.0);
        shop.part(1, 200);
        shop.draw(1, 0, 0, 2, 1);
        shop.die(1, true);
        shop.coil(1, 203, 500, 1000);
        shop.change(1);
        shop.run(1, 2);
        long sum = 3L * 25 * 101 * 785 + 4L * 50 * 203 * 270;
        Check.isReal("of all alloys", shop.meanWeight(), (double) (sum / 10000) / (double) 7);
    }

    private static void soundness() {
        StrikeStrip shop = Shops.ready(1000);
        shop.work(0, 20, 170, 0);
        shop.work(0, 20, 170, 0);
        shop.behind(0, 0, 1);
        Check.isTrue("ahead of a run", shop.isSound());
        shop.run(0, 33);
        Check.isTrue("behind it", shop.isSound());
        shop.call(0, 20, 100);
        shop.pass(1000);
        Check.isTrue("parts that are delivered count", shop.isSound());
        shop.sell(0);
        shop.apart(0, 0, 1);
        Check.isTrue("and what is sold", shop.isSound());
    }

    /** Half a milligram less than a kilogram, which is not sold, and a third of one more. */
    private static void kilogramEdges() {
        int[][] last = {{395, 66, 400, 376}, {395, 97, 397, 348}};
        for (int i = 0; i < 2; i++) {
            StrikeStrip shop = new StrikeStrip();
            shop.part(3, 400);
            shop.draw(0, 0, 0, 1, 1);
            shop.die(0, false);
            shop.clearance(0, 30);
            shop.change(0);
            shop.coil(3, 400, 500, 50);
            shop.coil(3, last[i][0], last[i][1], 10);
            shop.coil(3, last[i][2], last[i][3], 10);
            for (int stroke = 0; stroke < 5; stroke++) {
                Check.is("all is scrap by the burr", shop.run(0, 1), 0);
            }
            shop.run(1, 1);
            shop.run(2, 1);
            Check.is("nearly a kilogram, or just one", shop.scrap(3), i == 0 ? 999999 : 1000000);
            shop.price(3, 9999);
            Check.is("it brings", shop.sell(3), i == 0 ? 0 : 9999);
            Check.is("it leaves", shop.scrap(3), i == 0 ? 999999 : 0);
            Check.isTrue("sound", shop.isSound());
            Check.is("nothing more", shop.sell(3), 0);
            shop.coil(3, 400, 15, 10);
            shop.run(3, 1);
            Check.is("one more stroke, of 5100", shop.scrap(3), i == 0 ? 1005099 : 5100);
            Check.is("brings", shop.sell(3), i == 0 ? 9999 : 0);
            Check.is("and leaves", shop.scrap(3), i == 0 ? 5099 : 5100);
        }
    }

    /** A stroke of 20 by 15 by 10 of alloy 0 weighs 235.5, and its part 39.25: what is left is kept to the part. */
    private static void partsOfAMilligram() {
        StrikeStrip shop = new StrikeStrip();
        shop.part(0, 20);
        shop.draw(0, 0, 0, 1, 1);
        shop.die(0, false);
        shop.coil(0, 20, 15, 1000);
        shop.change(0);
        for (int stroke = 1; stroke <= 8; stroke++) {
            shop.run(0, 1);
            Check.is("196.25 each", shop.scrap(0), stroke * 19625 / 100);
            Check.is("235.5 each", shop.weight(0), (100 - stroke) * 2355 / 10);
            Check.isReal("39.25 each, the sum rounded down", shop.meanWeight(),
                    (double) (stroke * 3925L / 100) / (double) stroke);
            Check.isTrue("sound", shop.isSound());
        }
    }

    /** Strokes that are scrap by a weld, a misfeed, the one behind it, and a burr are strokes, but not good ones. */
    private static void scrapStrokes() {
        StrikeStrip shop = Shops.ready(15);
        shop.coil(0, 100, 15, 1000);
        shop.weld(0, 1);
        shop.run(0, 1);
        Check.isReal("one of one", shop.goodShare(), 1);
        shop.run(0, 1);
        Check.isReal("a weld", shop.goodShare(), (float) 1 / (float) 2);
        shop.misfeed(0, 2);
        shop.run(0, 1);
        Check.isReal("a misfeed", shop.goodShare(), (float) 1 / (float) 3);
        shop.sensor(0, 0);
        shop.misfeed(0, 3);
        shop.run(0, 2);
        Check.isReal("one that is not seen", shop.goodShare(), (float) 1 / (float) 5);
        shop.clearance(0, 30);
        shop.run(0, 1);
        Check.isReal("a burr", shop.goodShare(), (float) 1 / (float) 6);
        Check.is("all but one part is scrap", shop.scrap(0), (60L * 15 - 25) * 100 * 785 / 10000);
        Check.isReal("its weight", shop.meanWeight(), 196);
        shop.clearance(0, 8);
        shop.run(0, 600);
        Check.isReal("and 95 good ones", shop.goodShare(), (float) 96 / (float) 101);
        Check.is("the last one was not made", shop.strokes(0), 101);
    }

    private static void nothingYet() {
        StrikeStrip shop = Shops.ready(9);
        shop.run(0, 1);
        Check.refuses("no stroke was made", ARITHMETIC, () -> (long) shop.goodShare());
        Check.refuses("and no part", ARITHMETIC, () -> (long) shop.meanWeight());
        Check.isTrue("sound", shop.isSound());
        shop.coil(0, 100, 15, 10);
        shop.clearance(0, 30);
        shop.run(1, 1);
        Check.isReal("one of scrap", shop.goodShare(), 0);
        Check.refuses("still no part", ARITHMETIC, () -> (long) shop.meanWeight());
        shop.coil(0, 100, 15, 10);
        shop.clearance(0, 8);
        shop.run(2, 1);
        Check.isReal("and a good one", shop.goodShare(), (float) 1 / (float) 2);
        Check.isReal("its weight", shop.meanWeight(), 196);
    }
}
