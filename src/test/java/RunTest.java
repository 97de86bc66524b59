/** Promises 37 to 40. */
final class RunTest {
    private static final Class<IllegalArgumentException> ARGUMENT = IllegalArgumentException.class;
    private static final Class<IllegalStateException> STATE = IllegalStateException.class;
    private static final Class<IndexOutOfBoundsException> INDEX = IndexOutOfBoundsException.class;
    private static final Class<UnsupportedOperationException> UNSUPPORTED = UnsupportedOperationException.class;

    public static void main(String[] args) {
        refusals();
        goingTogether();
        minutes();
        endings();
        burrs();
        seenMisfeeds();
        unseenMisfeeds();
        bothEndings();
        welds();
        pairsAndScrap();
        revisions();
        Check.end();
    }

    private static void refusals() {
        StrikeStrip shop = Shops.withDie(false);
        shop.coil(1, 100, 15, 100);
        Check.refuses("no coil", INDEX, () -> shop.run(1, 0));
        Check.refuses("coil -1", INDEX, () -> shop.run(-1, 1));
        Check.refuses("0 strokes", ARGUMENT, () -> shop.run(0, 0));
        Check.refuses("601 strokes", ARGUMENT, () -> shop.run(0, 601));
        Check.refuses("no die is in", STATE, () -> shop.run(0, 1));
        shop.change(0);
        Check.refuses("another alloy", UNSUPPORTED, () -> shop.run(0, 600));
        shop.work(0, 201, 180, 0);
        Check.refuses("it suits no more", STATE, () -> shop.run(0, 1));
        shop.press(201);
        Check.refuses("it suits again", UNSUPPORTED, () -> shop.run(0, 1));
        Check.is("no run", shop.ended(), '-');
        Check.refuses("strokes of no die", INDEX, () -> shop.strokes(1));
        Check.refuses("strokes of die -1", INDEX, () -> shop.strokes(-1));
        Check.refuses("stock of no part", INDEX, () -> shop.stock(1, 0));
        Check.refuses("stock of no revision", INDEX, () -> shop.stock(0, 1));
        Check.refuses("stock of revision -1", INDEX, () -> shop.stock(0, -1));
    }

    private static void goingTogether() {
        StrikeStrip shop = Shops.ready(100);
        int[] thicknesses = {94, 95, 105, 106};
        for (int i = 0; i < 4; i++) {
            shop.coil(0, thicknesses[i], 15, 100);
        }
        shop.coil(0, 100, 14, 100);
        Check.refuses("6 thinner", UNSUPPORTED, () -> shop.run(1, 1));
        Check.is("5 thinner", shop.run(2, 1), 1);
        Check.is("5 thicker", shop.run(3, 1), 1);
        Check.refuses("6 thicker", UNSUPPORTED, () -> shop.run(4, 1));
        Check.refuses("too narrow", UNSUPPORTED, () -> shop.run(5, 1));
        shop.run(0, 10);
        Check.refuses("no metal", UNSUPPORTED, () -> shop.run(0, 1));
        shop.weld(3, 4);
        Check.is("only the foremost stretch counts", shop.run(3, 600), 19);
        Check.is("to its end", shop.ended(), 'c');
    }

    private static void minutes() {
        int[][] dues = {{1, 1}, {29, 1}, {30, 1}, {31, 2}, {60, 2}, {61, 3}, {600, 20}};
        for (int[] due : dues) {
            StrikeStrip shop = Shops.ready(100000);
            Check.is("good parts", shop.run(0, due[0]), due[0]);
            Check.is("minutes", shop.pass(1), 28 + due[1] + 1);
        }
        StrikeStrip shop = Shops.ready(9);
        Check.is("no stroke", shop.run(0, 600), 0);
        Check.is("no minute", shop.pass(1), 29);
        Check.is("too little", shop.ended(), 'c');
        Check.is("it is still there", shop.left(0), 9);
        StrikeStrip called = Shops.ready(1000);
        called.call(0, 100, 29);
        called.run(0, 40);
        Check.is("behind all its strokes", called.delivered(0), 40);
    }

    private static void endings() {
        StrikeStrip shop = Shops.ready(100);
        Check.is("none", shop.ended(), '-');
        Check.is("all but one", shop.run(0, 9), 9);
        Check.is("done", shop.ended(), 'd');
        Check.is("the last one", shop.run(0, 1), 1);
        Check.is("done to the end", shop.ended(), 'd');
        Check.is("strokes", shop.strokes(0), 10);
        Check.is("stock", shop.stock(0, 0), 10);
        shop.coil(0, 100, 15, 29);
        Check.is("two of three", shop.run(1, 3), 2);
        Check.is("too little", shop.ended(), 'c');
        Check.is("the rest", shop.left(1), 9);
        Check.is("strokes that were made", shop.strokes(0), 12);
        Check.refuses("a run that throws", ARGUMENT, () -> shop.run(1, 0));
        Check.is("does not end", shop.ended(), 'c');
    }

    private static void burrs() {
        StrikeStrip shop = Shops.ready(100000);
        shop.revise(0, 1);
        Check.is("up to 100 of wear", shop.run(0, 600), 100);
        Check.is("the burr", shop.ended(), 'b');
        Check.is("one stroke is scrap", shop.strokes(0), 101);
        Check.is("none", shop.run(0, 600), 0);
        Check.is("one stroke more", shop.strokes(0), 102);
        Check.is("the coil", shop.left(0), 100000 - 1020);
        shop.clearance(0, 10);
        shop.revise(0, 4);
        Check.is("a limit that is reached", shop.run(0, 1), 1);
        shop.revise(0, 3);
        Check.is("one that is not kept", shop.run(0, 1), 0);
        Check.is("the burr ends the last stroke, too", shop.ended(), 'b');
        shop.regrind(0);
        Check.is("reground", shop.run(0, 600), 100);
        StrikeStrip first = Shops.ready(100000);
        for (int good = 0; good < 1050; good += 350) {
            Check.is("up to a burr of 20", first.run(0, 350), 350);
        }
        Check.is("not beyond", first.run(0, 1), 0);
        Check.is("the burr", first.ended(), 'b');
    }

    private static void seenMisfeeds() {
        int[][] dues = {{29, 0}, {30, 1}, {150, 1}, {151, 0}};
        for (int[] due : dues) {
            StrikeStrip shop = Shops.ready(1000);
            shop.sensor(0, due[0]);
            shop.misfeed(0, 2);
            Check.is("good parts", shop.run(0, 5), due[1] == 1 ? 2 : 3);
            Check.is("the end", shop.ended(), due[1] == 1 ? 'm' : 'd');
            Check.is("the strokes", shop.strokes(0), due[1] == 1 ? 3 : 5);
            Check.is("the next one", shop.run(0, 1), 1);
        }
        StrikeStrip last = Shops.ready(30);
        last.misfeed(0, 2);
        last.run(0, 3);
        Check.is("at the last stroke", last.ended(), 'm');
        StrikeStrip without = Shops.ready(20);
        without.coil(0, 100, 15, 100);
        without.misfeed(0, 2);
        Check.is("without metal", without.run(0, 3), 2);
        Check.is("it is not made", without.ended(), 'c');
        Check.is("it is still to come", without.misfeed(0, 50), 2);
        Check.is("it comes", without.run(1, 3), 0);
        Check.is("it is seen", without.ended(), 'm');
    }

    private static void unseenMisfeeds() {
        StrikeStrip shop = Shops.ready(1000);
        shop.sensor(0, 0);
        shop.misfeed(0, 1);
        Check.is("to the misfeed", shop.run(0, 2), 1);
        Check.is("not seen", shop.ended(), 'd');
        shop.sensor(0, 90);
        Check.is("in the next run, too", shop.run(0, 3), 2);
        shop.sensor(0, 0);
        shop.misfeed(0, 5);
        shop.misfeed(0, 6);
        Check.is("one behind another one", shop.run(0, 5), 2);
        shop.misfeed(0, 10);
        shop.misfeed(0, 11);
        shop.run(0, 1);
        shop.sensor(0, 90);
        Check.is("a seen one behind it", shop.run(0, 5), 0);
        Check.is("is seen", shop.ended(), 'm');
        Check.is("and nothing is left of both", shop.run(0, 5), 5);
        shop.sensor(0, 0);
        shop.misfeed(0, 17);
        shop.run(0, 1);
        shop.die(0, false);
        shop.change(1);
        Check.is("another die", shop.run(0, 2), 2);
        shop.change(0);
        shop.regrind(0);
        Check.is("the next one of this die", shop.run(0, 2), 1);
        StrikeStrip short1 = Shops.ready(15);
        short1.coil(0, 100, 15, 20);
        short1.sensor(0, 200);
        short1.misfeed(0, 0);
        Check.is("without metal for the next one", short1.run(0, 2), 0);
        Check.is("it is not made", short1.ended(), 'c');
        Check.is("it is scrap when it is made", short1.run(1, 2), 1);
    }

    private static void bothEndings() {
        StrikeStrip shop = Shops.ready(1000);
        shop.revise(0, 0);
        shop.clearance(0, 9);
        shop.misfeed(0, 1);
        Check.is("a burr", shop.run(0, 5), 0);
        Check.is("ends it", shop.ended(), 'b');
        shop.run(0, 5);
        Check.is("a misfeed ahead of the burr", shop.ended(), 'm');
        shop.misfeed(0, 2);
        shop.sensor(0, 0);
        shop.run(0, 5);
        Check.is("one that is not seen", shop.ended(), 'b');
        shop.clearance(0, 8);
        Check.is("still spoils the next one", shop.run(0, 5), 4);
        StrikeStrip without = Shops.ready(9);
        without.revise(0, 0);
        without.clearance(0, 9);
        without.misfeed(0, 0);
        without.run(0, 1);
        Check.is("without metal there is no stroke", without.ended(), 'c');
    }

    private static void welds() {
        int[][] dues = {{9, 1, 0}, {10, 2, 0}, {11, 1, 1}, {19, 1, 1}, {20, 3, 0}};
        for (int[] due : dues) {
            StrikeStrip shop = Shops.ready(due[0]);
            shop.coil(0, 105, 15, 30 - due[0]);
            shop.weld(0, 1);
            int good = due[0] % 10 == 0 ? 3 : 2;
            Check.is("all but the weld", shop.run(0, 3), good);
            Check.is("the weld does not end it", shop.ended(), 'd');
            Check.is("nothing is left", shop.left(0), 0);
            Check.isTrue("sound", shop.isSound());
            long parts = 25L * 785 * (100 * (due[0] / 10) + 105 * ((30 - due[0]) / 10));
            long all = 15L * 785 * (100 * due[0] + 105 * (30 - due[0]));
            Check.is("the scrap", shop.scrap(0), (all - parts) / 10000);
        }
        StrikeStrip shop = Shops.ready(3);
        for (int i = 1; i < 12; i++) {
            shop.coil(0, 100 + i, 15, 3);
            shop.weld(0, i);
        }
        Check.is("several in each stroke", shop.run(0, 4), 0);
        Check.is("to the end", shop.ended(), 'c');
        Check.is("what is left", shop.left(0), 6);
        Check.is("weight of it", shop.weight(0), 15L * 3 * (110 + 111) * 785 / 10000);
        Check.isTrue("sound", shop.isSound());
        StrikeStrip all = Shops.ready(10);
        for (int i = 1; i < 12; i++) {
            all.coil(0, 100 + i, 15, 10);
            all.weld(0, i);
        }
        long scrap = 0;
        for (int i = 0; i < 12; i++) {
            scrap += (150L - 25) * (100 + i) * 785;
        }
        Check.is("a stretch each stroke", all.run(0, 12), 12);
        Check.is("the scrap of all", all.scrap(0), scrap / 10000);
        Check.is("all are used up", all.left(0), 0);
        Check.isTrue("sound to the end", all.isSound());
    }

    private static void pairsAndScrap() {
        StrikeStrip shop = Shops.withDie(true);
        shop.coil(0, 104, 24, 1000);
        shop.coil(0, 104, 25, 1000);
        shop.change(0);
        Check.refuses("too narrow for the pair", UNSUPPORTED, () -> shop.run(0, 1));
        Check.is("two a stroke", shop.run(1, 7), 14);
        Check.is("in stock", shop.stock(0, 0), 14);
        Check.is("left", shop.left(1), 930);
        long scrap = (70L * 25 - 14 * 25) * 104 * 785;
        Check.is("scrap", shop.scrap(0), scrap / 10000);
        Check.is("weight", shop.weight(1), 930L * 25 * 104 * 785 / 10000);
        Check.isTrue("sound", shop.isSound());
    }

    private static void revisions() {
        StrikeStrip shop = Shops.ready(1000);
        shop.run(0, 4);
        shop.revise(0, 20);
        shop.run(0, 5);
        shop.call(0, 3, 40);
        shop.pass(10);
        Check.is("of the first one", shop.stock(0, 0), 4);
        Check.is("of the last one", shop.stock(0, 1), 2);
        Check.refuses("of the next one", INDEX, () -> shop.stock(0, 2));
    }
}
