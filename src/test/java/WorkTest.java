import java.util.Random;

/** Promises 20 to 25. */
final class WorkTest {
    private static final Class<IllegalArgumentException> ARGUMENT = IllegalArgumentException.class;
    private static final Class<IllegalStateException> STATE = IllegalStateException.class;
    private static final Class<IndexOutOfBoundsException> INDEX = IndexOutOfBoundsException.class;
    private static final Class<UnsupportedOperationException> UNSUPPORTED = UnsupportedOperationException.class;

    public static void main(String[] args) {
        dies();
        works();
        behind();
        apart();
        stations();
        anyStations();
        rowOfEight();
        eightApart();
        behindMany();
        stationForces();
        earlierFirst();
        diesApart();
        Check.end();
    }

    private static void dies() {
        StrikeStrip shop = new StrikeStrip();
        Check.refuses("no part", INDEX, () -> shop.die(0, false));
        shop.part(0, 100);
        Check.refuses("part -1", INDEX, () -> shop.die(-1, true));
        Check.refuses("an empty shape", UNSUPPORTED, () -> shop.die(0, false));
        shop.draw(0, 0, 0, 1, 1);
        shop.part(1, 100);
        for (int i = 0; i < 8; i++) {
            Check.is("the number of a die", shop.die(0, i % 2 == 0), i);
        }
        Check.refuses("a 9th die", STATE, () -> shop.die(0, false));
        Check.refuses("a 9th die of an empty shape", UNSUPPORTED, () -> shop.die(1, false));
        Check.refuses("a 9th die of no part", INDEX, () -> shop.die(2, false));
    }

    private static void works() {
        StrikeStrip shop = Shops.withDie(false);
        Check.refuses("no die", INDEX, () -> shop.work(1, 0, 90, 0));
        Check.refuses("die -1", INDEX, () -> shop.work(-1, 1, 90, 0));
        int[][] wrong = {{0, 90, 0}, {401, 90, 0}, {1, 89, 0}, {1, 181, 0}, {1, 90, -100}, {1, 90, 100}};
        for (int[] work : wrong) {
            Check.refuses("a work", ARGUMENT, () -> shop.work(0, work[0], work[1], work[2]));
        }
        for (int i = 0; i < 8; i++) {
            boolean isLeast = i % 2 == 0;
            int place = isLeast ? -99 : 99;
            Check.is("the number of a work", shop.work(0, isLeast ? 1 : 400, isLeast ? 90 : 180, place), i);
        }
        Check.refuses("a 9th work", STATE, () -> shop.work(0, 1, 90, 0));
        Check.refuses("a wrong 9th work", ARGUMENT, () -> shop.work(0, 1, 90, 100));
        shop.die(0, false);
        Check.is("the first work of another die", shop.work(1, 1, 90, 0), 0);
    }

    private static void behind() {
        StrikeStrip shop = withWorks(4, 1);
        Check.refuses("no die", INDEX, () -> shop.behind(1, 0, 0));
        Check.refuses("no later work", INDEX, () -> shop.behind(0, 4, 0));
        Check.refuses("no earlier work", INDEX, () -> shop.behind(0, 0, -1));
        Check.refuses("an earlier work behind the last", INDEX, () -> shop.behind(0, 0, 4));
        Check.refuses("a later work ahead of the first", INDEX, () -> shop.behind(0, -1, 0));
        Check.refuses("the same work that is not", INDEX, () -> shop.behind(0, 4, 4));
        Check.refuses("the same", UNSUPPORTED, () -> shop.behind(0, 1, 1));
        Check.is("behind one", shop.behind(0, 2, 1), 1);
        Check.is("behind it again", shop.behind(0, 2, 1), 1);
        Check.is("one behind it", shop.behind(0, 3, 2), 1);
        Check.refuses("in a ring", UNSUPPORTED, () -> shop.behind(0, 1, 2));
        Check.refuses("in a ring over others", UNSUPPORTED, () -> shop.behind(0, 1, 3));
        Check.is("behind it over others, and itself", shop.behind(0, 3, 1), 2);
        Check.is("the first one behind the last", shop.behind(0, 0, 3), 1);
        Check.refuses("in a ring of all", UNSUPPORTED, () -> shop.behind(0, 1, 0));
        Check.is("stations", shop.stations(0), 4);
        Check.is("the last station", shop.stationOf(0, 0), 3);
    }

    private static void apart() {
        StrikeStrip shop = withWorks(3, 1);
        Check.refuses("no die", INDEX, () -> shop.apart(-1, 0, 0) ? 1 : 0);
        Check.refuses("no work", INDEX, () -> shop.apart(0, 3, 3) ? 1 : 0);
        Check.refuses("no other work", INDEX, () -> shop.apart(0, 0, -1) ? 1 : 0);
        Check.refuses("another work behind the last", INDEX, () -> shop.apart(0, 0, 3) ? 1 : 0);
        Check.refuses("a work behind the last", INDEX, () -> shop.apart(0, 3, 0) ? 1 : 0);
        Check.refuses("a work ahead of the first", INDEX, () -> shop.apart(0, -1, 0) ? 1 : 0);
        Check.refuses("the same", UNSUPPORTED, () -> shop.apart(0, 2, 2) ? 1 : 0);
        Check.is("one station", shop.stations(0), 1);
        Check.isTrue("apart", shop.apart(0, 2, 0));
        Check.isFalse("apart already", shop.apart(0, 0, 2));
        Check.isFalse("apart already, again", shop.apart(0, 2, 0));
        Check.is("two stations", shop.stations(0), 2);
        Check.is("the first one earlier", shop.stationOf(0, 0), 0);
        Check.is("the last one later", shop.stationOf(0, 2), 1);
        shop.behind(0, 0, 2);
        Check.is("now behind it", shop.stationOf(0, 0), 1);
    }

    private static void stations() {
        StrikeStrip shop = Shops.withDie(false);
        Check.refuses("no die", INDEX, () -> shop.stations(1));
        Check.refuses("no die for a work", INDEX, () -> shop.stationOf(1, 0));
        Check.is("no works", shop.stations(0), 0);
        Check.refuses("no work", INDEX, () -> shop.stationOf(0, 0));
        shop.work(0, 250, 90, 0);
        Check.is("one work", shop.stations(0), 1);
        Check.refuses("work -1", INDEX, () -> shop.stationOf(0, -1));
        shop.work(0, 250, 90, 0);
        Check.is("500 tons", shop.stations(0), 1);
        shop.work(0, 1, 90, 0);
        Check.is("501 tons", shop.stations(0), 2);
        Check.is("the earlier ones first", shop.stationOf(0, 2), 1);
        Check.isTrue("sound", shop.isSound());
        StrikeStrip full = withWorks(8, 400);
        Check.is("each alone", full.stations(0), 8);
        Check.is("the last one", full.stationOf(0, 7), 7);
    }

    /** Any works, against all ways counted up one by one. */
    private static void anyStations() {
        Random random = new Random(5);
        for (int round = 0; round < 1500; round++) {
            int count = random.nextInt(9);
            int heavy = 50 + random.nextInt(351);
            StrikeStrip shop = Shops.withDie(false);
            int[] forces = new int[count];
            boolean[][] behind = new boolean[count][count];
            boolean[][] apart = new boolean[count][count];
            for (int i = 0; i < count; i++) {
                forces[i] = 1 + random.nextInt(heavy);
                shop.work(0, forces[i], 90, 0);
            }
            int rules = count < 2 ? 0 : random.nextInt(count * 2);
            for (int i = 0; i < rules; i++) {
                int one = random.nextInt(count);
                int other = random.nextInt(count);
                if (random.nextInt(3) == 0 && one != other) {
                    Check.is("apart", shop.apart(0, one, other) ? 1 : 0, apart[one][other] ? 0 : 1);
                    apart[one][other] = true;
                    apart[other][one] = true;
                } else if (putBehind(shop, one, other, leadsTo(behind, one, other))) {
                    behind[one][other] = true;
                }
            }
            int[] due = new int[count];
            int fewest = fewest(forces, behind, apart, due);
            Check.is("the fewest stations", shop.stations(0), fewest);
            for (int i = 0; i < count; i++) {
                Check.is("a station", shop.stationOf(0, i), due[i]);
            }
            Check.isTrue("sound", shop.isSound());
        }
    }

    private static boolean putBehind(StrikeStrip shop, int later, int earlier, boolean isRing) {
        try {
            shop.behind(0, later, earlier);
            Check.isFalse("put in a ring", isRing);
            return true;
        } catch (UnsupportedOperationException e) {
            Check.isTrue("refused without a ring", isRing);
            return false;
        }
    }

    private static boolean leadsTo(boolean[][] behind, int to, int from) {
        if (from == to) {
            return true;
        }
        for (int next = 0; next < behind.length; next++) {
            if (behind[from][next] && leadsTo(behind, to, next)) {
                return true;
            }
        }
        return false;
    }

    private static int fewest(int[] forces, boolean[][] behind, boolean[][] apart, int[] ways) {
        for (int stations = 0;; stations++) {
            if (count(forces, behind, apart, ways, 0, stations)) {
                return stations;
            }
        }
    }

    private static boolean count(int[] forces, boolean[][] behind, boolean[][] apart, int[] way, int work,
            int stations) {
        if (work == way.length) {
            return isGood(forces, behind, apart, way, stations);
        }
        for (way[work] = 0; way[work] < stations; way[work]++) {
            boolean isHopeless = false;
            for (int i = 0; i < work; i++) {
                isHopeless |= apart[i][work] && way[i] == way[work];
                isHopeless |= behind[i][work] && way[i] <= way[work] || behind[work][i] && way[work] <= way[i];
                isHopeless |= forces[i] + forces[work] > 500 && way[i] == way[work];
            }
            if (!isHopeless && count(forces, behind, apart, way, work + 1, stations)) {
                return true;
            }
        }
        return false;
    }

    private static boolean isGood(int[] forces, boolean[][] behind, boolean[][] apart, int[] way, int stations) {
        int[] loads = new int[stations];
        for (int i = 0; i < way.length; i++) {
            loads[way[i]] += forces[i];
            if (loads[way[i]] > 500) {
                return false;
            }
            for (int j = 0; j < way.length; j++) {
                if (behind[i][j] && way[i] <= way[j] || apart[i][j] && way[i] == way[j]) {
                    return false;
                }
            }
        }
        return true;
    }

    private static StrikeStrip withWorks(int count, int force) {
        StrikeStrip shop = Shops.withDie(false);
        for (int i = 0; i < count; i++) {
            shop.work(0, force, 180, 0);
        }
        return shop;
    }

    /** As many works as there can be, each behind the one with the next number: as many stations. */
    private static void rowOfEight() {
        StrikeStrip shop = withWorks(8, 1);
        Check.is("all at one", shop.stations(0), 1);
        for (int i = 0; i < 7; i++) {
            Check.is("behind one", shop.behind(0, i, i + 1), 1);
            Check.is("a station more", shop.stations(0), i + 2);
        }
        for (int i = 0; i < 8; i++) {
            Check.is("its station", shop.stationOf(0, i), 7 - i);
        }
        Check.refuses("a ring of all eight", UNSUPPORTED, () -> shop.behind(0, 7, 0));
        Check.refuses("a ring over six", UNSUPPORTED, () -> shop.behind(0, 6, 0));
        Check.is("behind over six, and told", shop.behind(0, 0, 7), 2);
        Check.isTrue("sound", shop.isSound());
    }

    private static void eightApart() {
        StrikeStrip shop = withWorks(8, 1);
        for (int i = 0; i < 8; i++) {
            for (int j = 0; j < i; j++) {
                Check.isTrue("apart", shop.apart(0, i, j));
                Check.isFalse("told from the other side", shop.apart(0, j, i));
            }
            Check.is("stations", shop.stations(0), i + 1);
        }
        for (int i = 0; i < 8; i++) {
            Check.is("its station", shop.stationOf(0, i), i);
        }
        Check.is("they can be behind each other, too", shop.behind(0, 0, 7), 1);
        Check.is("the first one is later", shop.stationOf(0, 0), 1);
        Check.is("the last one is first", shop.stationOf(0, 7), 0);
        Check.is("no more stations", shop.stations(0), 8);
    }

    /** One work behind all others, and all others behind one. */
    private static void behindMany() {
        StrikeStrip shop = withWorks(8, 1);
        for (int i = 1; i < 8; i++) {
            Check.is("behind as many", shop.behind(0, 0, i), i);
        }
        Check.is("told again", shop.behind(0, 0, 7), 7);
        Check.is("two stations", shop.stations(0), 2);
        Check.is("the second one", shop.stationOf(0, 0), 1);
        StrikeStrip other = withWorks(8, 1);
        for (int i = 1; i < 8; i++) {
            int later = i;
            Check.is("each behind one", other.behind(0, later, 0), 1);
            Check.refuses("which can't be behind it", UNSUPPORTED, () -> other.behind(0, 0, later));
        }
        Check.is("two stations, too", other.stations(0), 2);
        Check.is("the first one first", other.stationOf(0, 0), 0);
        Check.is("the last one second", other.stationOf(0, 7), 1);
        // Over 3 and 5 work 2 is behind 4; 4 is not behind 6.
        StrikeStrip third = withWorks(8, 1);
        third.behind(0, 2, 3);
        third.behind(0, 3, 5);
        third.behind(0, 5, 4);
        Check.refuses("over two", UNSUPPORTED, () -> third.behind(0, 4, 2));
        Check.refuses("over one", UNSUPPORTED, () -> third.behind(0, 4, 3));
        Check.refuses("over none", UNSUPPORTED, () -> third.behind(0, 4, 5));
        Check.is("behind another one", third.behind(0, 4, 6), 1);
        Check.refuses("now over three", UNSUPPORTED, () -> third.behind(0, 6, 2));
        Check.is("five in a row", third.stations(0), 5);
    }

    /** At most 500 tons at a station, by two works, by three, and by eight. */
    private static void stationForces() {
        int[][] dues = {{100, 400, 1}, {101, 400, 2}, {250, 250, 1}, {250, 251, 2}, {400, 400, 2}};
        for (int[] due : dues) {
            StrikeStrip shop = withWorks(1, due[0]);
            shop.work(0, due[1], 180, 0);
            Check.is("stations of " + due[0] + " and " + due[1], shop.stations(0), due[2]);
        }
        StrikeStrip shop = withWorks(7, 62);
        shop.work(0, 66, 180, 0);
        Check.is("eight of 500 together", shop.stations(0), 1);
        StrikeStrip other = withWorks(7, 62);
        other.work(0, 67, 180, 0);
        Check.is("eight of 501 together", other.stations(0), 2);
        Check.is("the last one alone", other.stationOf(0, 7), 1);
        Check.is("the seventh not", other.stationOf(0, 6), 0);
    }

    /** The fewest stations come first, then the station of the first work, then that of the next one. */
    private static void earlierFirst() {
        StrikeStrip shop = Shops.withDie(false);
        for (int force : new int[] {200, 300, 300, 200}) {
            shop.work(0, force, 180, 0);
        }
        Check.is("two are enough", shop.stations(0), 2);
        Check.is("200 and 300", shop.stationOf(0, 0) + shop.stationOf(0, 1), 0);
        Check.is("300 and 200", shop.stationOf(0, 2) + shop.stationOf(0, 3), 2);
        // At the earliest place each, 1 would come to 0, and three stations would be needed.
        StrikeStrip other = Shops.withDie(false);
        for (int force : new int[] {200, 200, 300, 300}) {
            other.work(0, force, 180, 0);
        }
        Check.is("two are enough here", other.stations(0), 2);
        Check.is("the first one first", other.stationOf(0, 0), 0);
        Check.is("the second one later", other.stationOf(0, 1), 1);
        Check.is("the third one earlier", other.stationOf(0, 2), 0);
        Check.is("the last one later", other.stationOf(0, 3), 1);
    }

    private static void diesApart() {
        StrikeStrip shop = withWorks(2, 300);
        shop.die(0, true);
        shop.work(1, 1, 90, 0);
        Check.refuses("a work of the other die", INDEX, () -> shop.stationOf(1, 1));
        Check.refuses("behind a work of the other die", INDEX, () -> shop.behind(1, 0, 1));
        shop.work(1, 2, 90, 0);
        shop.behind(1, 0, 1);
        Check.is("the other way around here", shop.behind(0, 1, 0), 1);
        Check.isTrue("apart here", shop.apart(0, 0, 1));
        Check.isTrue("and there", shop.apart(1, 0, 1));
        Check.is("the station here", shop.stationOf(0, 0), 0);
        Check.is("the station there", shop.stationOf(1, 0), 1);
    }
}
