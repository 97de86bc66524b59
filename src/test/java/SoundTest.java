import java.lang.reflect.Array;
import java.lang.reflect.Field;

/**
 * Promise 51, the other answer: no run of calls leads to a shop that is not sound, so that these shops are spoilt
 * from behind.
 */
final class SoundTest {
    public static void main(String[] args) throws Exception {
        try {
            metal();
            stations();
        } catch (NoSuchFieldException e) {
            // How the state is held is free: of a class that holds it otherwise there is nothing to spoil here.
            System.out.println("no " + e.getMessage() + ": nothing was spoilt");
        }
        Check.end();
    }

    private static void metal() throws Exception {
        for (String kind : new String[] {"bought", "good", "scrap", "sold"}) {
            for (int alloy = 0; alloy < 4; alloy++) {
                StrikeStrip shop = shop();
                long[] weights = (long[]) read(read(shop, "metal"), kind);
                weights[alloy]++;
                Check.isFalse("with more " + kind, shop.isSound());
                weights[alloy]--;
                Check.isTrue("with as much " + kind, shop.isSound());
            }
        }
        StrikeStrip cut = shop();
        int[] lengths = (int[]) read(Array.get(read(cut, "coils"), 0), "lengths");
        lengths[0]--;
        Check.isFalse("with less of a coil", cut.isSound());
    }

    private static void stations() throws Exception {
        int[][] wrong = {{1, 0, 1}, {0, 0, 1}, {0, 1, 0}, {0, 2, 1}, {0, 1, 2}, {-1, 1, 1}};
        for (int[] stations : wrong) {
            refuses(shop(), stations);
        }
        // 501 tons at one station, whether it is the first or the second one.
        refuses(shopOf(400, 100, 1), 0, 0, 0);
        refuses(shopOf(1, 400, 100), 1, 1, 1);
        StrikeStrip row = shopOf(400, 1, 1);
        row.behind(0, 2, 1);
        Check.isTrue("as told", row.isSound());
        refuses(row, 0, 1, 1);
        refuses(row, 0, 1, 0);
        StrikeStrip apart = shopOf(1, 1, 1);
        apart.apart(0, 0, 2);
        Check.isTrue("as told, too", apart.isSound());
        refuses(apart, 1, 0, 1);
    }

    /** The second die has works of 300, 300 and 150 tons; the second one is behind the first, the third apart. */
    private static StrikeStrip shop() {
        StrikeStrip shop = Shops.ready(1000);
        shop.run(0, 10);
        shop.die(0, true);
        shop.work(1, 300, 180, 0);
        shop.work(1, 300, 180, 0);
        shop.work(1, 150, 180, 0);
        shop.behind(1, 1, 0);
        shop.apart(1, 2, 0);
        Check.isTrue("a shop as it is", shop.isSound());
        return shop;
    }

    private static StrikeStrip shopOf(int... forces) {
        StrikeStrip shop = Shops.withDie(false);
        for (int force : forces) {
            shop.work(0, force, 180, 0);
        }
        Check.isTrue("works as they are", shop.isSound());
        return shop;
    }

    /** Tells other stations for the works of the last die, as many as there are. */
    private static void refuses(StrikeStrip shop, int... stations) throws Exception {
        int last = 0;
        while (Array.get(read(shop, "dies"), last + 1) != null) {
            last++;
        }
        int[] told = (int[]) read(read(Array.get(read(shop, "dies"), last), "works"), "station");
        System.arraycopy(stations, 0, told, 0, stations.length);
        Check.isFalse("with other stations", shop.isSound());
    }

    private static Object read(Object owner, String name) throws Exception {
        Field field = owner.getClass().getDeclaredField(name);
        field.setAccessible(true);
        return field.get(owner);
    }
}
