/** Promises 41 to 45. */
final class CallTest {
    private static final Class<IllegalArgumentException> ARGUMENT = IllegalArgumentException.class;
    private static final Class<IllegalStateException> STATE = IllegalStateException.class;
    private static final Class<IndexOutOfBoundsException> INDEX = IndexOutOfBoundsException.class;

    public static void main(String[] args) {
        refusals();
        forty();
        passing();
        partRacks();
        racksComeBack();
        allRacks();
        order();
        lastRevision();
        wholeAndPartRacks();
        stockAndCount();
        racksAtTheMinute();
        callsAtTheLastMinute();
        fortyAtOnce();
        callsOfNothing();
        Check.end();
    }

    private static void refusals() {
        StrikeStrip shop = Shops.ready(1000);
        Check.refuses("no part", INDEX, () -> shop.call(1, 0, 0));
        Check.refuses("part -1", INDEX, () -> shop.call(-1, 1, 100));
        Check.refuses("count 0", ARGUMENT, () -> shop.call(0, 0, 100));
        Check.refuses("count 201", ARGUMENT, () -> shop.call(0, 201, 100));
        Check.refuses("now", ARGUMENT, () -> shop.call(0, 1, 28));
        Check.refuses("ahead of now", ARGUMENT, () -> shop.call(0, 1, -1));
        Check.is("the next minute", shop.call(0, 1, 29), 1);
        Check.is("the last minute of all", shop.call(0, 200, Integer.MAX_VALUE), 2);
        Check.refuses("0 minutes", ARGUMENT, () -> shop.pass(0));
        Check.refuses("1001 minutes", ARGUMENT, () -> shop.pass(1001));
        Check.refuses("-1 minutes", ARGUMENT, () -> shop.pass(-1));
        Check.refuses("delivered of no part", INDEX, () -> shop.delivered(1));
        Check.refuses("missed of no part", INDEX, () -> shop.missed(1));
        Check.refuses("racks of no part", INDEX, () -> shop.racks(1));
        Check.refuses("delivered of part -1", INDEX, () -> shop.delivered(-1));
        Check.refuses("missed of part -1", INDEX, () -> shop.missed(-1));
        Check.refuses("racks of part -1", INDEX, () -> shop.racks(-1));
    }

    private static void forty() {
        StrikeStrip shop = Shops.withDie(false);
        shop.part(0, 100);
        for (int i = 0; i < 40; i++) {
            Check.is("calls to come", shop.call(i % 2, 1, 1 + i), i + 1);
        }
        Check.refuses("a 41st", STATE, () -> shop.call(0, 1, 50));
        Check.refuses("a wrong 41st", ARGUMENT, () -> shop.call(0, 1, 0));
        shop.pass(1);
        Check.is("one came", shop.call(0, 1, 50), 40);
        Check.refuses("full again", STATE, () -> shop.call(0, 1, 50));
        Check.is("all but those of the minute 50", shop.pass(48), 49);
        Check.is("missed by the first part", shop.missed(0), 20);
        Check.is("missed by the second part", shop.missed(1), 20);
        Check.is("the last one is still to come", shop.call(1, 1, 50), 2);
    }

    private static void passing() {
        StrikeStrip shop = Shops.withDie(false);
        Check.is("one", shop.pass(1), 1);
        Check.is("a thousand", shop.pass(1000), 1001);
        shop.call(0, 7, 1003);
        shop.pass(1);
        Check.is("ahead of it", shop.missed(0), 0);
        shop.pass(1);
        Check.is("at it", shop.missed(0), 7);
        shop.pass(1);
        Check.is("behind it", shop.missed(0), 7);
    }

    private static void partRacks() {
        StrikeStrip shop = Shops.ready(1000);
        shop.run(0, 50);
        Check.is("racks at first", shop.racks(0), 20);
        shop.call(0, 11, 31);
        shop.pass(1);
        Check.is("delivered", shop.delivered(0), 11);
        Check.is("a part of a rack counts as one", shop.racks(0), 18);
        Check.is("stock", shop.stock(0, 0), 39);
        shop.call(0, 20, 32);
        shop.pass(1);
        Check.is("whole racks", shop.racks(0), 16);
        shop.call(0, 50, 33);
        shop.pass(1);
        Check.is("what is there", shop.delivered(0), 50);
        Check.is("missed", shop.missed(0), 31);
        Check.is("racks for what is there", shop.racks(0), 14);
        shop.call(0, 1, 34);
        shop.pass(1);
        Check.is("nothing takes no rack", shop.racks(0), 14);
        Check.is("missed, too", shop.missed(0), 32);
    }

    private static void racksComeBack() {
        StrikeStrip shop = Shops.ready(10000);
        shop.run(0, 600);
        shop.call(0, 200, 50);
        shop.call(0, 10, 109);
        shop.call(0, 10, 110);
        shop.pass(2);
        Check.is("all are away", shop.racks(0), 0);
        shop.pass(59);
        Check.is("still away", shop.racks(0), 0);
        Check.is("so that it is missed", shop.missed(0), 10);
        shop.pass(1);
        Check.is("back ahead of the call", shop.racks(0), 19);
        Check.is("so that it is delivered", shop.delivered(0), 210);
        Check.is("the stock", shop.stock(0, 0), 390);
    }

    private static void allRacks() {
        StrikeStrip shop = Shops.ready(10000);
        shop.run(0, 600);
        shop.part(0, 100);
        for (int i = 0; i < 19; i++) {
            shop.call(0, 1, 60);
        }
        shop.pass(12);
        Check.is("19 are away", shop.racks(0), 1);
        shop.call(0, 15, 61);
        shop.pass(1);
        Check.is("as far as there are racks", shop.delivered(0), 29);
        Check.is("the rest is missed", shop.missed(0), 5);
        Check.is("no rack", shop.racks(0), 0);
        Check.is("another part's racks", shop.racks(1), 20);
        shop.pass(59);
        Check.is("the 19 are back", shop.racks(0), 19);
        shop.pass(1);
        Check.is("all are back", shop.racks(0), 20);
    }

    private static void order() {
        StrikeStrip shop = Shops.ready(200);
        shop.run(0, 20);
        shop.call(0, 15, 32);
        shop.call(0, 12, 31);
        shop.call(0, 4, 31);
        shop.call(0, 15, 31);
        shop.pass(3);
        Check.is("at the earlier minute first", shop.delivered(0), 20);
        // 12 take 2 racks, 4 take 1, 4 of 15 take 1, and the last call takes none.
        Check.is("as they were made", shop.racks(0), 16);
        Check.is("missed", shop.missed(0), 26);
        StrikeStrip other = Shops.ready(200);
        other.run(0, 20);
        other.call(0, 19, 31);
        other.call(0, 10, 31);
        other.pass(2);
        // 19 take 2 and 1 takes 1; the other way around 10 would take 1 and 10 would take 1.
        Check.is("not the other way around", other.racks(0), 17);
    }

    private static void lastRevision() {
        StrikeStrip shop = Shops.ready(1000);
        shop.run(0, 20);
        shop.call(0, 5, 40);
        shop.call(0, 5, 50);
        shop.pass(11);
        Check.is("of the first one", shop.stock(0, 0), 15);
        shop.revise(0, 20);
        shop.pass(10);
        Check.is("the last one has none", shop.missed(0), 5);
        Check.is("the first one stays", shop.stock(0, 0), 15);
        Check.is("delivered", shop.delivered(0), 5);
    }

    /** With a stock of 600 at the minute 48. */
    private static StrikeStrip stocked() {
        StrikeStrip shop = Shops.ready(10000);
        shop.run(0, 600);
        return shop;
    }

    private static void wholeAndPartRacks() {
        int[][] dues = {{1, 19}, {9, 19}, {10, 19}, {11, 18}, {20, 18}, {21, 17}, {189, 1}, {190, 1}, {191, 0},
            {199, 0}, {200, 0}};
        for (int[] due : dues) {
            StrikeStrip shop = stocked();
            shop.call(0, due[0], 49);
            shop.pass(1);
            Check.is("delivered of " + due[0], shop.delivered(0), due[0]);
            Check.is("missed of " + due[0], shop.missed(0), 0);
            Check.is("racks behind " + due[0], shop.racks(0), due[1]);
            Check.is("stock behind " + due[0], shop.stock(0, 0), 600 - due[0]);
        }
        // With 1, 2 and no racks here, one part less than they hold, as many, and one more.
        for (int away = 18; away <= 20; away++) {
            for (int more = -1; more <= 1; more++) {
                StrikeStrip shop = stocked();
                shop.call(0, 10 * away, 49);
                int held = 10 * (20 - away);
                if (held + more > 0) {
                    shop.call(0, held + more, 50);
                }
                shop.pass(2);
                Check.is("delivered", shop.delivered(0), 10 * away + (more < 0 && away < 20 ? held - 1 : held));
                Check.is("missed", shop.missed(0), more > 0 ? 1 : 0);
                Check.is("no rack", shop.racks(0), 0);
            }
        }
        StrikeStrip ones = stocked();
        for (int i = 0; i < 21; i++) {
            ones.call(0, 1, 50);
        }
        ones.pass(2);
        Check.is("20 racks of one each", ones.delivered(0), 20);
        Check.is("none for the last one", ones.missed(0), 1);
    }

    private static void stockAndCount() {
        for (int stock = 9; stock <= 21; stock++) {
            for (int count = stock - 1; count <= stock + 1; count++) {
                StrikeStrip shop = Shops.ready(10000);
                shop.run(0, stock);
                shop.call(0, count, 60);
                shop.pass(100);
                int given = Math.min(stock, count);
                Check.is("delivered", shop.delivered(0), given);
                Check.is("missed", shop.missed(0), count - given);
                Check.is("the rest", shop.stock(0, 0), stock - given);
            }
        }
    }

    /** Racks that go at 50 are away at 109, and back at 110, ahead of its calls. */
    private static void racksAtTheMinute() {
        for (int minute = 108; minute <= 111; minute++) {
            StrikeStrip shop = stocked();
            shop.call(0, 200, 50);
            shop.call(0, 15, minute);
            shop.pass(minute - 48 - 1);
            Check.is("racks ahead of " + minute, shop.racks(0), minute > 110 ? 20 : 0);
            shop.pass(1);
            Check.is("delivered at " + minute, shop.delivered(0), minute < 110 ? 200 : 215);
            Check.is("missed at " + minute, shop.missed(0), minute < 110 ? 15 : 0);
            Check.is("racks behind " + minute, shop.racks(0), minute < 110 ? 0 : 18);
        }
        // The same as minutes pass at once.
        StrikeStrip shop = stocked();
        shop.call(0, 200, 50);
        shop.call(0, 1, 110);
        shop.call(0, 195, 169);
        shop.call(0, 1, 109);
        shop.call(0, 1, 170);
        shop.pass(1000);
        Check.is("19 racks at 169, and one at 170", shop.delivered(0), 200 + 1 + 190 + 1);
        Check.is("missed at 109 and at 169", shop.missed(0), 1 + 5);
        Check.is("all are back", shop.racks(0), 20);
    }

    /** A call at the last minute of a change, of a run and of a pass is answered, one behind it is not. */
    private static void callsAtTheLastMinute() {
        for (int late = 0; late <= 1; late++) {
            StrikeStrip changed = Shops.withDie(false);
            changed.call(0, 5, 28 + late);
            changed.change(0);
            Check.is("as it was changed", changed.missed(0), late == 0 ? 5 : 0);
            changed.die(0, false);
            changed.call(0, 6, 59 + late);
            changed.change(1);
            Check.is("as it was changed again", changed.missed(0), late == 0 ? 11 : 5);
            changed.change(1);
            Check.is("no minute", changed.missed(0), late == 0 ? 11 : 5);
            StrikeStrip run = Shops.ready(1000);
            run.call(0, 40, 30 + late);
            run.run(0, 31);
            Check.is("as it ran, behind all strokes", run.delivered(0), late == 0 ? 31 : 0);
            Check.is("and missed", run.missed(0), late == 0 ? 9 : 0);
            StrikeStrip passed = Shops.ready(1000);
            passed.call(0, 3, 1028 + late);
            Check.is("as minutes passed", passed.pass(1000), 1028);
            Check.is("missed", passed.missed(0), late == 0 ? 3 : 0);
        }
        StrikeStrip shop = Shops.ready(1000);
        shop.call(0, 1, 29);
        Check.is("two to come", shop.call(0, 1, 30), 2);
        shop.pass(1);
        Check.is("one has come", shop.call(0, 1, 30), 2);
        shop.pass(1);
        Check.is("both have come", shop.call(0, 1, 31), 1);
    }

    /** As many calls as there can be, all of one minute: answered as they were made. */
    private static void fortyAtOnce() {
        StrikeStrip shop = stocked();
        shop.part(0, 100);
        for (int i = 0; i < 40; i++) {
            Check.is("to come", shop.call(i % 4 == 3 ? 1 : 0, 7, 60), i + 1);
        }
        Check.refuses("one more", STATE, () -> shop.call(0, 1, 70));
        shop.pass(11);
        Check.refuses("they are still to come", STATE, () -> shop.call(0, 1, 70));
        shop.pass(1);
        Check.is("20 of 30 had a rack", shop.delivered(0), 140);
        Check.is("10 had none", shop.missed(0), 70);
        Check.is("of the other part there is nothing", shop.missed(1), 70);
        Check.is("its racks are here", shop.racks(1), 20);
        Check.is("there is room again", shop.call(0, 1, 70), 1);
    }

    private static void callsOfNothing() {
        StrikeStrip shop = new StrikeStrip();
        shop.part(0, 100);
        shop.part(0, 100);
        Check.is("of an empty shape", shop.call(1, 200, 1), 1);
        shop.pass(1);
        Check.is("missed", shop.missed(1), 200);
        Check.is("not by the other part", shop.missed(0), 0);
        Check.is("nothing delivered", shop.delivered(1), 0);
        Check.is("no rack went", shop.racks(1), 20);
        // A revision behind the call, and ahead of its minute: of the last one alone.
        StrikeStrip revised = stocked();
        revised.call(0, 10, 60);
        revised.revise(0, 20);
        revised.run(0, 4);
        revised.pass(100);
        Check.is("4 of the new one", revised.delivered(0), 4);
        Check.is("the others are missed", revised.missed(0), 6);
        Check.is("none of the new one is left", revised.stock(0, 1), 0);
        Check.is("the old ones stay", revised.stock(0, 0), 600);
    }
}
