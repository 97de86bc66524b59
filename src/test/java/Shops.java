/** Shops that several tests begin with. */
final class Shops {
    private Shops() {
    }

    /** A part of one cell of alloy 0, 100 thick, and a die for it, alone or in pairs. */
    static StrikeStrip withDie(boolean isPair) {
        StrikeStrip shop = new StrikeStrip();
        shop.part(0, 100);
        shop.draw(0, 0, 0, 1, 1);
        shop.die(0, isPair);
        return shop;
    }

    /** The same with the die in (at the minute 28), and a coil of alloy 0, 100 thick and 15 wide: 10 a stroke. */
    static StrikeStrip ready(int length) {
        StrikeStrip shop = withDie(false);
        shop.coil(0, 100, 15, length);
        shop.change(0);
        return shop;
    }
}
