/** Shops that several tests begin with. */
final class Shops {
    private Shops() {
    }

    /** A part of one cell of alloy 0, 100 thick, and a die for it, alone or in pairs. */
    static StrikeStrip withDie(boolean isPair) {
        StrikeStrip shop = new StrikeStrip();
        shop.part(0, 100);
        shop.draw(0, 0, 0, 1, 1);
        shop.die(0, isPair);
        return shop;
    }

    /** The same with the die in (at the minute 28), and a coil of alloy 0, 100 thick and 15 wide: 10 a stroke. */
    static StrikeStrip ready(int length) {
        StrikeStrip shop = withDie(false);
        shop.coil(0, 100, 15, length);
        shop.change(0);
        return shop;
    }

    /**
     * A shop with some of everything: 5 coils, of which 1 is used up, 3 parts, of which 2 has no shape, 3 dies,
     * of which 1 does not suit the press and 2 is worn out, a profile without a good order, 2 calls to come, racks
     * away, a misfeed to come, and one that spoils the next stroke of die 0, which is in.
     */
    static StrikeStrip working() {
        StrikeStrip shop = new StrikeStrip();
        shop.coil(0, 100, 40, 1990);
        shop.coil(0, 104, 40, 500);
        shop.coil(0, 101, 40, 77);
        shop.coil(1, 50, 60, 500);
        shop.coil(0, 106, 40, 300);
        shop.weld(0, 1);
        shop.part(0, 100);
        shop.draw(0, 0, 0, 4, 1);
        shop.draw(0, 0, 0, 1, 4);
        shop.part(1, 50);
        shop.draw(1, 2, 2, 2, 1);
        shop.part(0, 100);
        shop.die(0, true);
        shop.die(1, false);
        shop.die(0, false);
        shop.work(0, 60, 150, 10);
        shop.work(0, 80, 160, -5);
        shop.work(0, 50, 170, 0);
        shop.behind(0, 1, 0);
        shop.apart(0, 0, 2);
        shop.work(1, 300, 180, 0);
        for (int i = 0; i < 9; i++) {
            shop.regrind(2);
        }
        shop.sensor(0, 200);
        shop.clearance(0, 9);
        shop.misfeed(0, 11);
        shop.misfeed(0, 60);
        shop.change(0);
        shop.call(0, 15, 30);
        shop.call(1, 3, 31);
        shop.call(0, 12, 400);
        shop.call(1, 3, 100);
        shop.run(0, 12);
        shop.pass(5);
        shop.revise(0, 30);
        shop.price(0, 250);
        shop.profile(4);
        shop.bend(true, 1);
        shop.bend(true, 3);
        shop.bend(true, 3);
        return shop;
    }

    /** A shop with as many as there can be: 12 coils, 8 parts, 8 dies, 8 works in die 0, 6 bends, 40 calls. */
    static StrikeStrip full() {
        StrikeStrip shop = new StrikeStrip();
        for (int i = 0; i < 12; i++) {
            shop.coil(0, 100, 40, 30 + i);
        }
        for (int i = 0; i < 8; i++) {
            shop.part(0, 100);
            if (i < 7) {
                shop.draw(i, 0, 0, 1 + i, 1);
            }
        }
        for (int i = 0; i < 8; i++) {
            shop.die(0, i % 2 == 0);
            shop.work(0, 10 + i, 175, 5);
        }
        shop.profile(1);
        for (int i = 0; i < 6; i++) {
            shop.bend(i % 2 == 0, 2);
        }
        for (int i = 0; i < 40; i++) {
            shop.call(i % 8, 1 + i, 100 + i);
        }
        return shop;
    }
}
