/** Promises 41 to 45. */
final class CallTest {
    private static final Class<IllegalArgumentException> ARGUMENT = IllegalArgumentException.class;
    private static final Class<IllegalStateException> STATE = IllegalStateException.class;
    private static final Class<IndexOutOfBoundsException> INDEX = IndexOutOfBoundsException.class;

    public static void main(String[] args) {
        refusals();
        forty();
        passing();
        partRacks();
        racksComeBack();
        allRacks();
        order();
        lastRevision();
        Check.end();
    }

    private static void refusals() {
        StrikeStrip shop = Shops.ready(1000);
        Check.refuses("no part", INDEX, () -> shop.call(1, 0, 0));
        Check.refuses("part -1", INDEX, () -> shop.call(-1, 1, 100));
        Check.refuses("count 0", ARGUMENT, () -> shop.call(0, 0, 100));
        Check.refuses("count 201", ARGUMENT, () -> shop.call(0, 201, 100));
        Check.refuses("now", ARGUMENT, () -> shop.call(0, 1, 28));
        Check.refuses("ahead of now", ARGUMENT, () -> shop.call(0, 1, -1));
        Check.is("the next minute", shop.call(0, 1, 29), 1);
        Check.is("the last minute of all", shop.call(0, 200, Integer.MAX_VALUE), 2);
        Check.refuses("0 minutes", ARGUMENT, () -> shop.pass(0));
        Check.refuses("1001 minutes", ARGUMENT, () -> shop.pass(1001));
        Check.refuses("-1 minutes", ARGUMENT, () -> shop.pass(-1));
        Check.refuses("delivered of no part", INDEX, () -> shop.delivered(1));
        Check.refuses("missed of no part", INDEX, () -> shop.missed(1));
        Check.refuses("racks of no part", INDEX, () -> shop.racks(1));
        Check.refuses("delivered of part -1", INDEX, () -> shop.delivered(-1));
        Check.refuses("missed of part -1", INDEX, () -> shop.missed(-1));
        Check.refuses("racks of part -1", INDEX, () -> shop.racks(-1));
    }

    private static void forty() {
        StrikeStrip shop = Shops.withDie(false);
        shop.part(0, 100);
        for (int i = 0; i < 40; i++) {
            Check.is("calls to come", shop.call(i % 2, 1, 1 + i), i + 1);
        }
        Check.refuses("a 41st", STATE, () -> shop.call(0, 1, 50));
        Check.refuses("a wrong 41st", ARGUMENT, () -> shop.call(0, 1, 0));
        shop.pass(1);
        Check.is("one came", shop.call(0, 1, 50), 40);
        Check.refuses("full again", STATE, () -> shop.call(0, 1, 50));
        Check.is("all but those of the minute 50", shop.pass(48), 49);
        Check.is("missed by the first part", shop.missed(0), 20);
        Check.is("missed by the second part", shop.missed(1), 20);
        Check.is("the last one is still to come", shop.call(1, 1, 50), 2);
    }

    private static void passing() {
        StrikeStrip shop = Shops.withDie(false);
        Check.is("one", shop.pass(1), 1);
        Check.is("a thousand", shop.pass(1000), 1001);
        shop.call(0, 7, 1003);
        shop.pass(1);
        Check.is("ahead of it", shop.missed(0), 0);
        shop.pass(1);
        Check.is("at it", shop.missed(0), 7);
        shop.pass(1);
        Check.is("behind it", shop.missed(0), 7);
    }

    private static void partRacks() {
        StrikeStrip shop = Shops.ready(1000);
        shop.run(0, 50);
        Check.is("racks at first", shop.racks(0), 20);
        shop.call(0, 11, 31);
        shop.pass(1);
        Check.is("delivered", shop.delivered(0), 11);
        Check.is("a part of a rack counts as one", shop.racks(0), 18);
        Check.is("stock", shop.stock(0, 0), 39);
        shop.call(0, 20, 32);
        shop.pass(1);
        Check.is("whole racks", shop.racks(0), 16);
        shop.call(0, 50, 33);
        shop.pass(1);
        Check.is("what is there", shop.delivered(0), 50);
        Check.is("missed", shop.missed(0), 31);
        Check.is("racks for what is there", shop.racks(0), 14);
        shop.call(0, 1, 34);
        shop.pass(1);
        Check.is("nothing takes no rack", shop.racks(0), 14);
        Check.is("missed, too", shop.missed(0), 32);
    }

    private static void racksComeBack() {
        StrikeStrip shop = Shops.ready(10000);
        shop.run(0, 600);
        shop.call(0, 200, 50);
        shop.call(0, 10, 109);
        shop.call(0, 10, 110);
        shop.pass(2);
        Check.is("all are away", shop.racks(0), 0);
        shop.pass(59);
        Check.is("still away", shop.racks(0), 0);
        Check.is("so that it is missed", shop.missed(0), 10);
        shop.pass(1);
        Check.is("back ahead of the call", shop.racks(0), 19);
        Check.is("so that it is delivered", shop.delivered(0), 210);
        Check.is("the stock", shop.stock(0, 0), 390);
    }

    private static void allRacks() {
        StrikeStrip shop = Shops.ready(10000);
        shop.run(0, 600);
        shop.part(0, 100);
        for (int i = 0; i < 19; i++) {
            shop.call(0, 1, 60);
        }
        shop.pass(12);
        Check.is("19 are away", shop.racks(0), 1);
        shop.call(0, 15, 61);
        shop.pass(1);
        Check.is("as far as there are racks", shop.delivered(0), 29);
        Check.is("the rest is missed", shop.missed(0), 5);
        Check.is("no rack", shop.racks(0), 0);
        Check.is("another part's racks", shop.racks(1), 20);
        shop.pass(59);
        Check.is("the 19 are back", shop.racks(0), 19);
        shop.pass(1);
        Check.is("all are back", shop.racks(0), 20);
    }

    private static void order() {
        StrikeStrip shop = Shops.ready(200);
        shop.run(0, 20);
        shop.call(0, 15, 32);
        shop.call(0, 12, 31);
        shop.call(0, 4, 31);
        shop.call(0, 15, 31);
        shop.pass(3);
        Check.is("at the earlier minute first", shop.delivered(0), 20);
        // 12 take 2 racks, 4 take 1, 4 of 15 take 1, and the last call takes none.
        Check.is("as they were made", shop.racks(0), 16);
        Check.is("missed", shop.missed(0), 26);
        StrikeStrip other = Shops.ready(200);
        other.run(0, 20);
        other.call(0, 19, 31);
        other.call(0, 10, 31);
        other.pass(2);
        // 19 take 2 and 1 takes 1; the other way around 10 would take 1 and 10 would take 1.
        Check.is("not the other way around", other.racks(0), 17);
    }

    private static void lastRevision() {
        StrikeStrip shop = Shops.ready(1000);
        shop.run(0, 20);
        shop.call(0, 5, 40);
        shop.call(0, 5, 50);
        shop.pass(11);
        Check.is("of the first one", shop.stock(0, 0), 15);
        shop.revise(0, 20);
        shop.pass(10);
        Check.is("the last one has none", shop.missed(0), 5);
        Check.is("the first one stays", shop.stock(0, 0), 15);
        Check.is("delivered", shop.delivered(0), 5);
    }
}
