/** Promises 37 to 40. */
final class RunTest {
    private static final Class<IllegalArgumentException> ARGUMENT = IllegalArgumentException.class;
    private static final Class<IllegalStateException> STATE = IllegalStateException.class;
    private static final Class<IndexOutOfBoundsException> INDEX = IndexOutOfBoundsException.class;
    private static final Class<UnsupportedOperationException> UNSUPPORTED = UnsupportedOperationException.class;

    public static void main(String[] args) {
        refusals();
        goingTogether();
        minutes();
        endings();
        burrs();
        seenMisfeeds();
        unseenMisfeeds();
        bothEndings();
        welds();
        pairsAndScrap();
        revisions();
        coilEnds();
        weldPlaces();
        weldsOfRests();
        stretchesThatPass();
        stripWidths();
        strokesOfAMinute();
        sensorDegrees();
        spoiltStrokes();
        endsOfTheLastStroke();
        pairsAtTheEdges();
        Check.end();
    }

    private static void refusals() {
        StrikeStrip shop = Shops.withDie(false);
        shop.coil(1, 100, 15, 100);
        Check.refuses("no coil", INDEX, () -> shop.run(1, 0));
        Check.refuses("coil -1", INDEX, () -> shop.run(-1, 1));
        Check.refuses("0 strokes", ARGUMENT, () -> shop.run(0, 0));
        Check.refuses("601 strokes", ARGUMENT, () -> shop.run(0, 601));
        Check.refuses("no die is in", STATE, () -> shop.run(0, 1));
        shop.change(0);
        Check.refuses("another alloy", UNSUPPORTED, () -> shop.run(0, 600));
        shop.work(0, 201, 180, 0);
        Check.refuses("it suits no more", STATE, () -> shop.run(0, 1));
        shop.press(201);
        Check.refuses("it suits again", UNSUPPORTED, () -> shop.run(0, 1));
        Check.is("no run", shop.ended(), '-');
        Check.refuses("strokes of no die", INDEX, () -> shop.strokes(1));
        Check.refuses("strokes of die -1", INDEX, () -> shop.strokes(-1));
        Check.refuses("stock of no part", INDEX, () -> shop.stock(1, 0));
        Check.refuses("stock of no revision", INDEX, () -> shop.stock(0, 1));
        Check.refuses("stock of revision -1", INDEX, () -> shop.stock(0, -1));
    }

    private static void goingTogether() {
        StrikeStrip shop = Shops.ready(100);
        int[] thicknesses = {94, 95, 105, 106};
        for (int i = 0; i < 4; i++) {
            shop.coil(0, thicknesses[i], 15, 100);
        }
        shop.coil(0, 100, 14, 100);
        Check.refuses("6 thinner", UNSUPPORTED, () -> shop.run(1, 1));
        Check.is("5 thinner", shop.run(2, 1), 1);
        Check.is("5 thicker", shop.run(3, 1), 1);
        Check.refuses("6 thicker", UNSUPPORTED, () -> shop.run(4, 1));
        Check.refuses("too narrow", UNSUPPORTED, () -> shop.run(5, 1));
        shop.run(0, 10);
        Check.refuses("no metal", UNSUPPORTED, () -> shop.run(0, 1));
        shop.weld(3, 4);
        Check.is("only the foremost stretch counts", shop.run(3, 600), 19);
        Check.is("to its end", shop.ended(), 'c');
    }

    private static void minutes() {
        int[][] dues = {{1, 1}, {29, 1}, {30, 1}, {31, 2}, {60, 2}, {61, 3}, {600, 20}};
        for (int[] due : dues) {
            StrikeStrip shop = Shops.ready(100000);
            Check.is("good parts", shop.run(0, due[0]), due[0]);
            Check.is("minutes", shop.pass(1), 28 + due[1] + 1);
        }
        StrikeStrip shop = Shops.ready(9);
        Check.is("no stroke", shop.run(0, 600), 0);
        Check.is("no minute", shop.pass(1), 29);
        Check.is("too little", shop.ended(), 'c');
        Check.is("it is still there", shop.left(0), 9);
        StrikeStrip called = Shops.ready(1000);
        called.call(0, 100, 29);
        called.run(0, 40);
        Check.is("behind all its strokes", called.delivered(0), 40);
    }

    private static void endings() {
        StrikeStrip shop = Shops.ready(100);
        Check.is("none", shop.ended(), '-');
        Check.is("all but one", shop.run(0, 9), 9);
        Check.is("done", shop.ended(), 'd');
        Check.is("the last one", shop.run(0, 1), 1);
        Check.is("done to the end", shop.ended(), 'd');
        Check.is("strokes", shop.strokes(0), 10);
        Check.is("stock", shop.stock(0, 0), 10);
        shop.coil(0, 100, 15, 29);
        Check.is("two of three", shop.run(1, 3), 2);
        Check.is("too little", shop.ended(), 'c');
        Check.is("the rest", shop.left(1), 9);
        Check.is("strokes that were made", shop.strokes(0), 12);
        Check.refuses("a run that throws", ARGUMENT, () -> shop.run(1, 0));
        Check.is("does not end", shop.ended(), 'c');
    }

    private static void burrs() {
        StrikeStrip shop = Shops.ready(100000);
        shop.revise(0, 1);
        Check.is("up to 100 of wear", shop.run(0, 600), 100);
        Check.is("the burr", shop.ended(), 'b');
        Check.is("one stroke is scrap", shop.strokes(0), 101);
        Check.is("none", shop.run(0, 600), 0);
        Check.is("one stroke more", shop.strokes(0), 102);
        Check.is("the coil", shop.left(0), 100000 - 1020);
        shop.clearance(0, 10);
        shop.revise(0, 4);
        Check.is("a limit that is reached", shop.run(0, 1), 1);
        shop.revise(0, 3);
        Check.is("one that is not kept", shop.run(0, 1), 0);
        Check.is("the burr ends the last stroke, too", shop.ended(), 'b');
        shop.regrind(0);
        Check.is("reground", shop.run(0, 600), 100);
        StrikeStrip first = Shops.ready(100000);
        for (int good = 0; good < 1050; good += 350) {
            Check.is("up to a burr of 20", first.run(0, 350), 350);
        }
        Check.is("not beyond", first.run(0, 1), 0);
        Check.is("the burr", first.ended(), 'b');
    }

    private static void seenMisfeeds() {
        int[][] dues = {{29, 0}, {30, 1}, {150, 1}, {151, 0}};
        for (int[] due : dues) {
            StrikeStrip shop = Shops.ready(1000);
            shop.sensor(0, due[0]);
            shop.misfeed(0, 2);
            Check.is("good parts", shop.run(0, 5), due[1] == 1 ? 2 : 3);
            Check.is("the end", shop.ended(), due[1] == 1 ? 'm' : 'd');
            Check.is("the strokes", shop.strokes(0), due[1] == 1 ? 3 : 5);
            Check.is("the next one", shop.run(0, 1), 1);
        }
        StrikeStrip last = Shops.ready(30);
        last.misfeed(0, 2);
        last.run(0, 3);
        Check.is("at the last stroke", last.ended(), 'm');
        StrikeStrip without = Shops.ready(20);
        without.coil(0, 100, 15, 100);
        without.misfeed(0, 2);
        Check.is("without metal", without.run(0, 3), 2);
        Check.is("it is not made", without.ended(), 'c');
        Check.is("it is still to come", without.misfeed(0, 50), 2);
        Check.is("it comes", without.run(1, 3), 0);
        Check.is("it is seen", without.ended(), 'm');
    }

    private static void unseenMisfeeds() {
        StrikeStrip shop = Shops.ready(1000);
        shop.sensor(0, 0);
        shop.misfeed(0, 1);
        Check.is("to the misfeed", shop.run(0, 2), 1);
        Check.is("not seen", shop.ended(), 'd');
        shop.sensor(0, 90);
        Check.is("in the next run, too", shop.run(0, 3), 2);
        shop.sensor(0, 0);
        shop.misfeed(0, 5);
        shop.misfeed(0, 6);
        Check.is("one behind another one", shop.run(0, 5), 2);
        shop.misfeed(0, 10);
        shop.misfeed(0, 11);
        shop.run(0, 1);
        shop.sensor(0, 90);
        Check.is("a seen one behind it", shop.run(0, 5), 0);
        Check.is("is seen", shop.ended(), 'm');
        Check.is("and nothing is left of both", shop.run(0, 5), 5);
        shop.sensor(0, 0);
        shop.misfeed(0, 17);
        shop.run(0, 1);
        shop.die(0, false);
        shop.change(1);
        Check.is("another die", shop.run(0, 2), 2);
        shop.change(0);
        shop.regrind(0);
        Check.is("the next one of this die", shop.run(0, 2), 1);
        StrikeStrip short1 = Shops.ready(15);
        short1.coil(0, 100, 15, 20);
        short1.sensor(0, 200);
        short1.misfeed(0, 0);
        Check.is("without metal for the next one", short1.run(0, 2), 0);
        Check.is("it is not made", short1.ended(), 'c');
        Check.is("it is scrap when it is made", short1.run(1, 2), 1);
    }

    private static void bothEndings() {
        StrikeStrip shop = Shops.ready(1000);
        shop.revise(0, 0);
        shop.clearance(0, 9);
        shop.misfeed(0, 1);
        Check.is("a burr", shop.run(0, 5), 0);
        Check.is("ends it", shop.ended(), 'b');
        shop.run(0, 5);
        Check.is("a misfeed ahead of the burr", shop.ended(), 'm');
        shop.misfeed(0, 2);
        shop.sensor(0, 0);
        shop.run(0, 5);
        Check.is("one that is not seen", shop.ended(), 'b');
        shop.clearance(0, 8);
        Check.is("still spoils the next one", shop.run(0, 5), 4);
        StrikeStrip without = Shops.ready(9);
        without.revise(0, 0);
        without.clearance(0, 9);
        without.misfeed(0, 0);
        without.run(0, 1);
        Check.is("without metal there is no stroke", without.ended(), 'c');
    }

    private static void welds() {
        int[][] dues = {{9, 1, 0}, {10, 2, 0}, {11, 1, 1}, {19, 1, 1}, {20, 3, 0}};
        for (int[] due : dues) {
            StrikeStrip shop = Shops.ready(due[0]);
            shop.coil(0, 105, 15, 30 - due[0]);
            shop.weld(0, 1);
            int good = due[0] % 10 == 0 ? 3 : 2;
            Check.is("all but the weld", shop.run(0, 3), good);
            Check.is("the weld does not end it", shop.ended(), 'd');
            Check.is("nothing is left", shop.left(0), 0);
            Check.isTrue("sound", shop.isSound());
            long parts = 25L * 785 * (100 * (due[0] / 10) + 105 * ((30 - due[0]) / 10));
            long all = 15L * 785 * (100 * due[0] + 105 * (30 - due[0]));
            Check.is("the scrap", shop.scrap(0), (all - parts) / 10000);
        }
        StrikeStrip shop = Shops.ready(3);
        for (int i = 1; i < 12; i++) {
            shop.coil(0, 100 + i, 15, 3);
            shop.weld(0, i);
        }
        Check.is("several in each stroke", shop.run(0, 4), 0);
        Check.is("to the end", shop.ended(), 'c');
        Check.is("what is left", shop.left(0), 6);
        Check.is("weight of it", shop.weight(0), 15L * 3 * (110 + 111) * 785 / 10000);
        Check.isTrue("sound", shop.isSound());
        StrikeStrip all = Shops.ready(10);
        for (int i = 1; i < 12; i++) {
            all.coil(0, 100 + i, 15, 10);
            all.weld(0, i);
        }
        long scrap = 0;
        for (int i = 0; i < 12; i++) {
            scrap += (150L - 25) * (100 + i) * 785;
        }
        Check.is("a stretch each stroke", all.run(0, 12), 12);
        Check.is("the scrap of all", all.scrap(0), scrap / 10000);
        Check.is("all are used up", all.left(0), 0);
        Check.isTrue("sound to the end", all.isSound());
    }

    private static void pairsAndScrap() {
        StrikeStrip shop = Shops.withDie(true);
        shop.coil(0, 104, 24, 1000);
        shop.coil(0, 104, 25, 1000);
        shop.change(0);
        Check.refuses("too narrow for the pair", UNSUPPORTED, () -> shop.run(0, 1));
        Check.is("two a stroke", shop.run(1, 7), 14);
        Check.is("in stock", shop.stock(0, 0), 14);
        Check.is("left", shop.left(1), 930);
        long scrap = (70L * 25 - 14 * 25) * 104 * 785;
        Check.is("scrap", shop.scrap(0), scrap / 10000);
        Check.is("weight", shop.weight(1), 930L * 25 * 104 * 785 / 10000);
        Check.isTrue("sound", shop.isSound());
    }

    private static void revisions() {
        StrikeStrip shop = Shops.ready(1000);
        shop.run(0, 4);
        shop.revise(0, 20);
        shop.run(0, 5);
        shop.call(0, 3, 40);
        shop.pass(10);
        Check.is("of the first one", shop.stock(0, 0), 4);
        Check.is("of the last one", shop.stock(0, 1), 2);
        Check.refuses("of the next one", INDEX, () -> shop.stock(0, 2));
    }

    /** A coil that ends just at the end of a pitch, and each other length up to a millimetre behind three of them. */
    private static void coilEnds() {
        for (int length = 1; length <= 31; length++) {
            for (int strokes = 1; strokes <= 4; strokes++) {
                StrikeStrip shop = Shops.ready(length);
                int made = Math.min(strokes, length / 10);
                String what = strokes + " strokes of " + length;
                Check.is(what, shop.run(0, strokes), made);
                Check.is("the end of " + what, shop.ended(), made == strokes ? 'd' : 'c');
                Check.is("left of " + what, shop.left(0), length - 10 * made);
                Check.is("made of " + what, shop.strokes(0), made);
                Check.is("stock of " + what, shop.stock(0, 0), made);
                Check.is("the minute of " + what, shop.pass(1), 28 + (made > 0 ? 1 : 0) + 1);
                Check.is("the scrap of " + what, shop.scrap(0), made * 125L * 100 * 785 / 10000);
                if (length == 10 * made) {
                    Check.refuses("a stroke more of " + what, UNSUPPORTED, () -> shop.run(0, 1));
                    Check.is("still ended", shop.ended(), made == strokes ? 'd' : 'c');
                }
            }
        }
    }

    /** A weld at each millimetre of three pitches, run at once and stroke by stroke. */
    private static void weldPlaces() {
        for (int weld = 1; weld < 30; weld++) {
            StrikeStrip atOnce = welded(weld, 30 - weld);
            StrikeStrip oneByOne = welded(weld, 30 - weld);
            int good = 0;
            for (int stroke = 0; stroke < 3; stroke++) {
                boolean isWithin = weld > 10 * stroke && weld < 10 * stroke + 10;
                good += isWithin ? 0 : 1;
                Check.is("stroke " + stroke + " of a weld at " + weld, oneByOne.run(0, 1), isWithin ? 0 : 1);
                Check.is("it does not end there", oneByOne.ended(), 'd');
                Check.is("it is made", oneByOne.strokes(0), stroke + 1);
            }
            Check.is("all of a weld at " + weld, atOnce.run(0, 3), good);
            Check.is("the end of it", atOnce.ended(), 'd');
            Check.is("the scrap of it", atOnce.scrap(0), oneByOne.scrap(0));
            Check.isReal("the share of it", atOnce.goodShare(), (float) good / (float) 3);
            Check.isTrue("sound", atOnce.isSound() && oneByOne.isSound());
        }
    }

    private static StrikeStrip welded(int first, int second) {
        StrikeStrip shop = Shops.ready(first);
        shop.coil(0, 103, 15, second);
        shop.weld(0, 1);
        return shop;
    }

    /** A weld behind a coil that was run already, one in what is too short for a stroke, and two in one pitch. */
    private static void weldsOfRests() {
        for (int rest = 9; rest <= 11; rest++) {
            StrikeStrip shop = Shops.ready(20 + rest);
            shop.run(0, 2);
            shop.coil(0, 100, 15, 40);
            Check.is("welded behind a rest", shop.weld(0, 1), rest + 40);
            Check.is("the first stroke", shop.run(0, 1), rest == 9 ? 0 : 1);
            Check.is("the second one", shop.run(0, 1), rest == 11 ? 0 : 1);
            Check.is("the third one", shop.run(0, 1), 1);
        }
        StrikeStrip shop = welded(12, 3);
        Check.is("5 are left, with a weld at 2", shop.run(0, 2), 1);
        Check.is("too little", shop.ended(), 'c');
        Check.is("left", shop.left(0), 5);
        shop.coil(0, 100, 15, 20);
        Check.is("two welds", shop.weld(0, 2), 25);
        Check.is("are in one pitch", shop.run(0, 1), 0);
        Check.is("and none in the next one", shop.run(0, 5), 1);
        Check.is("left behind it", shop.left(0), 5);
        Check.is("too little again", shop.ended(), 'c');
        StrikeStrip short1 = welded(5, 5);
        Check.is("a coil that ends with a weld in its pitch", short1.run(0, 1), 0);
        Check.is("is struck", short1.ended(), 'd');
        Check.is("all of it is scrap", short1.scrap(0), 75L * 203 * 785 / 10000);
        StrikeStrip shorter = welded(5, 4);
        Check.is("a millimetre less", shorter.run(0, 1), 0);
        Check.is("is not struck", shorter.ended(), 'c');
        Check.is("nothing is scrap", shorter.scrap(0), 0);
    }

    /** Only the foremost stretch, as the run begins, must have the part's thickness. */
    private static void stretchesThatPass() {
        StrikeStrip shop = Shops.ready(10);
        shop.coil(0, 105, 15, 10);
        shop.coil(0, 110, 15, 20);
        shop.weld(0, 1);
        shop.weld(0, 2);
        Check.is("100, 105 and 110", shop.run(0, 3), 3);
        long scrap = 125L * (100 + 105 + 110) * 785;
        Check.is("each with its own thickness", shop.scrap(0), scrap / 10000);
        Check.isReal("the parts, too", shop.meanWeight(), (double) (25L * 315 * 785 / 10000) / (double) 3);
        Check.refuses("110 in a new run", UNSUPPORTED, () -> shop.run(0, 1));
        StrikeStrip other = Shops.ready(10);
        other.coil(0, 105, 15, 1);
        other.coil(0, 106, 15, 10);
        other.weld(1, 2);
        Check.is("105, for a millimetre, and 106", other.run(1, 1), 0);
        Check.is("it is struck", other.ended(), 'd');
        Check.refuses("106 is what is left", UNSUPPORTED, () -> other.run(1, 1));
        Check.is("a millimetre of it", other.left(1), 1);
    }

    /** A strip is 2 cells of 5 millimetres higher than the shape. */
    private static void stripWidths() {
        for (int rows = 1; rows <= 8; rows++) {
            for (int width = 5 * rows + 9; width <= 5 * rows + 11; width++) {
                StrikeStrip shop = new StrikeStrip();
                shop.part(1, 300);
                shop.draw(0, 3, 8 - rows, 2, rows);
                shop.die(0, false);
                shop.coil(1, 300, width, 100);
                shop.change(0);
                if (width < 5 * rows + 10) {
                    Check.refuses("too narrow", UNSUPPORTED, () -> shop.run(0, 1));
                } else {
                    Check.is("wide enough", shop.run(0, 7), 6);
                    Check.is("15 each", shop.left(0), 10);
                    long cells = 25L * 2 * rows;
                    Check.is("its scrap", shop.scrap(1), 6 * (15L * width - cells) * 300 * 270 / 10000);
                }
            }
        }
    }

    /** A minute for each 30 strokes, and for what is left of them. */
    private static void strokesOfAMinute() {
        StrikeStrip shop = Shops.ready(100000);
        int minute = 28;
        for (int strokes : new int[] {1, 29, 30, 31, 59, 60, 61, 89, 90, 91}) {
            Check.is("good ones", shop.run(0, strokes), strokes);
            minute += (strokes + 29) / 30 + 1;
            Check.is("the minute behind " + strokes, shop.pass(1), minute);
        }
        // Those that were made count, also if they are scrap.
        StrikeStrip ended = Shops.ready(100000);
        ended.misfeed(0, 30);
        Check.is("30 good ones", ended.run(0, 600), 30);
        Check.is("31 were made", ended.pass(1), 28 + 2 + 1);
        StrikeStrip before = Shops.ready(100000);
        before.misfeed(0, 29);
        Check.is("29 good ones", before.run(0, 600), 29);
        Check.is("30 were made", before.pass(1), 28 + 1 + 1);
        StrikeStrip without = Shops.ready(300);
        Check.is("30 of 300", without.run(0, 31), 30);
        Check.is("the 31st was not made", without.pass(1), 28 + 1 + 1);
    }

    /** A misfeed is seen from 30 to 150, at each of them. */
    private static void sensorDegrees() {
        for (int degree = 0; degree < 360; degree++) {
            StrikeStrip shop = Shops.ready(100);
            shop.sensor(0, degree);
            shop.misfeed(0, 1);
            boolean isSeen = degree >= 30 && degree <= 150;
            Check.is("good ones, looking at " + degree, shop.run(0, 4), isSeen ? 1 : 2);
            Check.is("the end of it", shop.ended(), isSeen ? 'm' : 'd');
            Check.is("the strokes of it", shop.strokes(0), isSeen ? 2 : 4);
        }
    }

    /** What a misfeed that was not seen spoils, is the next stroke of its die that is made. */
    private static void spoiltStrokes() {
        StrikeStrip shop = Shops.ready(1000);
        shop.sensor(0, 151);
        shop.misfeed(0, 0);
        Check.is("the first stroke of a die", shop.run(0, 1), 0);
        Check.is("is not seen", shop.ended(), 'd');
        Check.is("the next run", shop.run(0, 1), 0);
        Check.is("the one behind it", shop.run(0, 1), 1);
        shop.misfeed(0, 3);
        shop.misfeed(0, 5);
        Check.is("3 and 4, 5 and 6", shop.run(0, 5), 1);
        shop.misfeed(0, 8);
        shop.run(0, 1);
        shop.regrind(0);
        shop.revise(0, 20);
        shop.sensor(0, 90);
        shop.pass(1000);
        Check.is("whatever is done between them", shop.run(0, 1), 0);
        Check.is("of the new revision there is none", shop.stock(0, 1), 0);
        Check.is("one of them", shop.run(0, 1), 1);
        // A burr and a weld in a spoilt stroke, which spoil no other one.
        StrikeStrip other = Shops.ready(15);
        other.coil(0, 100, 15, 100);
        other.weld(0, 1);
        other.sensor(0, 29);
        other.misfeed(0, 0);
        Check.is("spoilt, and welded", other.run(0, 3), 1);
        Check.is("three strokes", other.strokes(0), 3);
    }

    /** The last stroke that was asked for may end the run, too. */
    private static void endsOfTheLastStroke() {
        StrikeStrip shop = Shops.ready(100);
        shop.misfeed(0, 2);
        Check.is("two, and the misfeed", shop.run(0, 3), 2);
        Check.is("which is seen", shop.ended(), 'm');
        shop.clearance(0, 30);
        Check.is("the burr of one", shop.run(0, 1), 0);
        Check.is("ends it", shop.ended(), 'b');
        shop.misfeed(0, 4);
        Check.is("both of one", shop.run(0, 1), 0);
        Check.is("ends it by the misfeed", shop.ended(), 'm');
        shop.misfeed(0, 5);
        shop.sensor(0, 0);
        Check.is("a misfeed that is not seen, and the burr", shop.run(0, 1), 0);
        Check.is("ends it by the burr", shop.ended(), 'b');
        shop.clearance(0, 8);
        Check.is("the next one is spoilt, and the last one of the coil is good", shop.run(0, 4), 3);
        Check.is("done", shop.ended(), 'd');
        Check.is("nothing is left", shop.left(0), 0);
        Check.is("ten strokes", shop.strokes(0), 10);
    }

    /** Two parts a stroke, of a pitch of 25 and a width of 40. */
    private static void pairsAtTheEdges() {
        for (int length = 49; length <= 51; length++) {
            StrikeStrip shop = angles();
            shop.coil(0, 100, 40, length);
            int made = length / 25;
            Check.is("pairs of " + length, shop.run(0, 2), 2 * made);
            Check.is("the end of " + length, shop.ended(), made == 2 ? 'd' : 'c');
            Check.is("left of " + length, shop.left(0), length - 25 * made);
        }
        for (int weld = 24; weld <= 26; weld++) {
            StrikeStrip shop = angles();
            shop.coil(0, 100, 40, weld);
            shop.coil(0, 100, 40, 75 - weld);
            shop.weld(0, 1);
            Check.is("a weld at " + weld, shop.run(0, 3), weld == 25 ? 6 : 4);
            Check.isReal("the share", shop.goodShare(), weld == 25 ? 1 : (float) 2 / (float) 3);
            long good = (weld == 25 ? 6 : 4) * 7L * 25;
            Check.is("the scrap", shop.scrap(0), (75L * 40 - good) * 100 * 785 / 10000);
        }
        StrikeStrip narrow = angles();
        narrow.coil(0, 100, 39, 100);
        Check.refuses("39 wide", UNSUPPORTED, () -> narrow.run(0, 1));
    }

    private static StrikeStrip angles() {
        StrikeStrip shop = new StrikeStrip();
        shop.part(0, 100);
        shop.draw(0, 0, 0, 4, 1);
        shop.draw(0, 0, 0, 1, 4);
        shop.die(0, true);
        shop.change(0);
        return shop;
    }
}
