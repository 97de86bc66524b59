/** Promises 26 to 29, and 36. */
final class PressTest {
    private static final Class<IllegalArgumentException> ARGUMENT = IllegalArgumentException.class;
    private static final Class<IllegalStateException> STATE = IllegalStateException.class;
    private static final Class<IndexOutOfBoundsException> INDEX = IndexOutOfBoundsException.class;
    private static final Class<UnsupportedOperationException> UNSUPPORTED = UnsupportedOperationException.class;

    public static void main(String[] args) {
        forces();
        bears();
        overloads();
        tilts();
        fingers();
        changes();
        changesCall();
        schedules();
        heights();
        pressingDegrees();
        exactTilts();
        fingersAtEachDegree();
        suitsJustSo();
        Check.end();
    }

    private static void forces() {
        StrikeStrip shop = new StrikeStrip();
        Check.is("the first force", shop.press(10), 200);
        Check.is("the least", shop.press(2000), 10);
        Check.refuses("force 9", ARGUMENT, () -> shop.press(9));
        Check.refuses("force 2001", ARGUMENT, () -> shop.press(2001));
        Check.is("the greatest", shop.press(100), 2000);
    }

    private static void bears() {
        StrikeStrip shop = new StrikeStrip();
        Check.refuses("degree -1", ARGUMENT, () -> shop.bears(-1));
        Check.refuses("degree 360", ARGUMENT, () -> shop.bears(360));
        Check.is("at the top", shop.bears(0), 33);
        Check.is("at the end", shop.bears(359), 33);
        Check.is("at 149", shop.bears(149), 193);
        Check.is("at 150", shop.bears(150), 200);
        Check.is("at 180", shop.bears(180), 200);
        Check.is("at 210", shop.bears(210), 200);
        Check.is("at 211", shop.bears(211), 193);
        for (int force = 10; force <= 2000; force += 199) {
            StrikeStrip next = new StrikeStrip();
            next.press(force);
            for (int degree = 0; degree < 360; degree++) {
                int height = degree < 180 ? 180 - degree : degree - 180;
                int due = height > 30 ? (int) Math.floor(force * 30.0 / height) : force;
                Check.is("what is borne", next.bears(degree), due);
            }
        }
    }

    private static void overloads() {
        StrikeStrip shop = Shops.withDie(false);
        Check.refuses("no die", INDEX, () -> shop.overloads(1));
        Check.refuses("die -1", INDEX, () -> shop.overloads(-1));
        Check.is("no works", shop.overloads(0), -1);
        shop.work(0, 66, 90, 0);
        Check.is("just borne at 90", shop.overloads(0), -1);
        shop.work(0, 1, 90, 0);
        Check.is("one more at 90", shop.overloads(0), 90);
        shop.press(202);
        Check.is("a stronger press", shop.overloads(0), -1);
        shop.work(0, 126, 148, 0);
        Check.is("later ones", shop.overloads(0), 148);
        shop.press(206);
        Check.is("a press of 206", shop.overloads(0), -1);
        shop.work(0, 14, 180, 0);
        Check.is("at the bottom, too", shop.overloads(0), 180);
        shop.press(207);
        Check.is("just borne at the bottom", shop.overloads(0), -1);
    }

    private static void tilts() {
        StrikeStrip shop = Shops.withDie(false);
        shop.work(0, 10, 100, 40);
        Check.is("place 40", shop.overloads(0), -1);
        shop.work(0, 10, 120, 41);
        Check.is("81 by 2", shop.overloads(0), 120);
        shop.work(0, 10, 120, -99);
        Check.is("the other side", shop.overloads(0), -1);
        shop.work(0, 20, 130, -91);
        Check.is("2000 by 50", shop.overloads(0), -1);
        shop.work(0, 1, 130, -41);
        Check.is("2041 by 51", shop.overloads(0), 130);
        StrikeStrip other = Shops.withDie(false);
        other.work(0, 1, 180, -41);
        Check.is("place -41", other.overloads(0), 180);
        Check.refuses("a die that tilts", UNSUPPORTED, () -> other.change(0));
        StrikeStrip third = Shops.withDie(false);
        third.work(0, 1, 180, -40);
        Check.is("place -40", third.overloads(0), -1);
    }

    private static void fingers() {
        StrikeStrip shop = Shops.withDie(false);
        Check.refuses("no die", INDEX, () -> shop.fingers(1, -1, 0) ? 1 : 0);
        Check.refuses("from -1", ARGUMENT, () -> shop.fingers(0, -1, 0) ? 1 : 0);
        Check.refuses("from 360", ARGUMENT, () -> shop.fingers(0, 360, 0) ? 1 : 0);
        Check.refuses("to -1", ARGUMENT, () -> shop.fingers(0, 0, -1) ? 1 : 0);
        Check.refuses("to 360", ARGUMENT, () -> shop.fingers(0, 0, 360) ? 1 : 0);
        Check.isTrue("to 119", shop.fingers(0, 0, 119));
        Check.isFalse("to 120", shop.fingers(0, 0, 120));
        Check.isFalse("from 240", shop.fingers(0, 240, 359));
        Check.isTrue("from 241", shop.fingers(0, 241, 359));
        Check.isTrue("over the end", shop.fingers(0, 241, 119));
        Check.isFalse("over the end to 120", shop.fingers(0, 241, 120));
        Check.isFalse("over the end from 240", shop.fingers(0, 240, 0));
        Check.isTrue("one degree", shop.fingers(0, 359, 359));
        Check.isFalse("another one", shop.fingers(0, 180, 180));
        Check.isFalse("nearly all around", shop.fingers(0, 1, 0));
        Check.isFalse("through the bottom", shop.fingers(0, 100, 300));
    }

    private static void changes() {
        StrikeStrip shop = Shops.withDie(false);
        shop.die(0, true);
        shop.work(1, 200, 180, 0);
        shop.coil(0, 100, 15, 100);
        Check.refuses("die -1", INDEX, () -> shop.change(-1));
        Check.refuses("die 2", INDEX, () -> shop.change(2));
        Check.refuses("a run without a die", STATE, () -> shop.run(0, 1));
        Check.is("the first change", shop.change(0), 28);
        Check.is("it is in", shop.change(0), 0);
        Check.is("the minute", shop.pass(1), 29);
        shop.press(199);
        Check.refuses("too weak a press", UNSUPPORTED, () -> shop.change(1));
        Check.is("it is still in", shop.run(0, 1), 1);
        shop.press(200);
        Check.is("a change from another one", shop.change(1), 31);
        Check.is("the minute behind it", shop.pass(1), 62);
        shop.press(100);
        Check.refuses("it is in, but suits no more", UNSUPPORTED, () -> shop.change(1));
        Check.is("back", shop.change(0), 31);
    }

    private static void changesCall() {
        StrikeStrip shop = Shops.withDie(false);
        shop.call(0, 3, 28);
        shop.call(0, 4, 29);
        shop.change(0);
        Check.is("called as minutes passed", shop.missed(0), 3);
        shop.pass(1);
        Check.is("and behind it", shop.missed(0), 7);
    }

    /** The works of a change, done by two teams minute by minute. */
    private static void schedules() {
        Check.is("from none", minutes(false), 28);
        Check.is("from an old one", minutes(true), 31);
    }

    private static int minutes(boolean hasOld) {
        int[] lasts = {10, 7, 12, 9, 6, 4, 3};
        int[][] behind = {{}, {}, {0, 1}, {0}, {2}, {2, 3}, {0, 1, 2, 3, 4, 5}};
        int[] ends = new int[7];
        java.util.Arrays.fill(ends, Integer.MAX_VALUE);
        if (!hasOld) {
            ends[0] = 0;
        }
        int[] freeAt = {0, 0};
        for (int minute = 0; minute < 100; minute++) {
            for (int team = 0; team < 2; team++) {
                int best = -1;
                for (int work = 0; work < 7 && freeAt[team] <= minute; work++) {
                    boolean canBegin = ends[work] == Integer.MAX_VALUE;
                    for (int ahead : behind[work]) {
                        canBegin &= ends[ahead] <= minute;
                    }
                    if (canBegin && (best < 0 || way(work, lasts, behind) > way(best, lasts, behind))) {
                        best = work;
                    }
                }
                if (best >= 0) {
                    ends[best] = minute + lasts[best];
                    freeAt[team] = ends[best];
                }
            }
        }
        return ends[6];
    }

    private static int way(int work, int[] lasts, int[][] behind) {
        int longest = 0;
        for (int next = 0; next < 7; next++) {
            for (int ahead : behind[next]) {
                longest = Math.max(longest, ahead == work ? way(next, lasts, behind) : 0);
            }
        }
        return lasts[work] + longest;
    }

    /** The whole force is borne up to a height of 30; above it, less is, rounded down. */
    private static void heights() {
        StrikeStrip shop = new StrikeStrip();
        shop.press(10);
        Check.is("10 at the top", shop.bears(0), 1);
        Check.is("10 at 31", shop.bears(149), 9);
        shop.press(2000);
        Check.is("2000 at the top", shop.bears(0), 333);
        Check.is("2000 at 30", shop.bears(150), 2000);
        Check.is("2000 at 30 again", shop.bears(210), 2000);
        Check.is("2000 at 31", shop.bears(149), 1935);
        Check.is("2000 at 31 again", shop.bears(211), 1935);
        shop.press(31);
        Check.is("31 at 31, just so", shop.bears(149), 30);
        Check.is("31 at 32", shop.bears(148), 29);
        shop.press(180);
        Check.is("180 at the top, just so", shop.bears(0), 30);
        shop.press(179);
        Check.is("179 at the top", shop.bears(0), 29);
        Check.is("179 at 1, one more than at the top", shop.bears(1), 30);
        Check.is("and at 359", shop.bears(359), 30);
    }

    /** A work presses from its degree on, and until 180. */
    private static void pressingDegrees() {
        for (int degree = 90; degree <= 180; degree++) {
            StrikeStrip shop = Shops.withDie(false);
            int borne = degree < 150 ? 200 * 30 / (180 - degree) : 200;
            shop.work(0, borne, degree, 40);
            Check.is("just borne from " + degree, shop.overloads(0), -1);
            shop.work(0, 1, degree, 0);
            Check.is("one more", shop.overloads(0), degree);
        }
        StrikeStrip shop = Shops.withDie(false);
        shop.work(0, 67, 90, 0);
        Check.is("67 are not borne at 90", shop.overloads(0), 90);
        shop.press(201);
        Check.is("but by 201", shop.overloads(0), -1);
        shop.work(0, 134, 179, 0);
        Check.is("201 up to the bottom, and not behind it", shop.overloads(0), -1);
        shop.work(0, 1, 180, 0);
        Check.is("202 at the bottom alone", shop.overloads(0), 180);
    }

    private static void exactTilts() {
        int[][] dues = {{40, 40, -1}, {-40, -40, -1}, {41, 39, -1}, {-41, -39, -1}, {41, 40, 180}, {-41, -40, 180},
            {99, -19, -1}, {99, -18, 180}, {-99, 19, -1}, {-99, 18, 180}, {99, -99, -1}};
        for (int[] due : dues) {
            StrikeStrip shop = Shops.withDie(false);
            shop.work(0, 1, 180, due[0]);
            shop.work(0, 1, 180, due[1]);
            Check.is("places " + due[0] + " and " + due[1], shop.overloads(0), due[2]);
        }
        // Until the second one presses, too, the first one tilts.
        StrikeStrip shop = Shops.withDie(false);
        shop.work(0, 5, 120, 80);
        shop.work(0, 5, 121, -80);
        Check.is("at one degree alone", shop.overloads(0), 120);
        StrikeStrip other = Shops.withDie(false);
        other.work(0, 5, 120, 80);
        other.work(0, 5, 120, -80);
        Check.is("at none", other.overloads(0), -1);
        // Force 33 at 99 and 47 at -1 are 3220 by 80.
        StrikeStrip third = Shops.withDie(false);
        third.work(0, 33, 170, 99);
        third.work(0, 47, 170, -1);
        Check.is("20 too much", third.overloads(0), 170);
        third.work(0, 1, 170, 20);
        Check.is("just so: 3240 by 81", third.overloads(0), -1);
    }

    /** Degree by degree, and from each one over the end of a stroke. */
    private static void fingersAtEachDegree() {
        StrikeStrip alone = Shops.withDie(false);
        for (int degree = 0; degree < 360; degree++) {
            Check.is("alone at " + degree, alone.fingers(0, degree, degree) ? 1 : 0,
                    degree < 120 || degree > 240 ? 1 : 0);
        }
        StrikeStrip over = Shops.withDie(false);
        for (int degree = 0; degree < 360; degree++) {
            int before = degree == 0 ? 359 : degree - 1;
            Check.isFalse("all around from " + degree, over.fingers(0, degree, before));
        }
        StrikeStrip shop = Shops.withDie(false);
        int[][] dues = {{241, 119, 1}, {241, 120, 0}, {240, 119, 0}, {359, 0, 1}, {359, 119, 1}, {359, 120, 0},
            {241, 0, 1}, {240, 0, 0}, {0, 119, 1}, {0, 120, 0}, {241, 359, 1}, {240, 359, 0}, {119, 119, 1},
            {120, 120, 0}, {240, 240, 0}, {241, 241, 1}, {0, 359, 0}, {119, 241, 0}, {119, 118, 0}, {242, 241, 0},
            {118, 119, 1}, {241, 242, 1}, {359, 358, 0}};
        for (int[] due : dues) {
            Check.is("from " + due[0] + " to " + due[1], shop.fingers(0, due[0], due[1]) ? 1 : 0, due[2]);
        }
        String before = Look.at(shop);
        shop.fingers(0, 100, 200);
        Check.isText("nothing else comes of it", Look.at(shop), before);
    }

    private static void suitsJustSo() {
        StrikeStrip shop = Shops.withDie(false);
        shop.coil(0, 100, 15, 100);
        shop.work(0, 200, 150, 40);
        Check.is("just borne, and just not tilted", shop.change(0), 28);
        Check.is("so that it runs", shop.run(0, 1), 1);
        shop.press(199);
        Check.refuses("a ton less", STATE, () -> shop.run(0, 1));
        Check.refuses("it is in, but does not suit", UNSUPPORTED, () -> shop.change(0));
        shop.press(200);
        Check.is("it is still in", shop.change(0), 0);
        shop.work(0, 1, 180, 0);
        Check.refuses("a ton more", STATE, () -> shop.run(0, 1));
        shop.press(201);
        Check.is("a ton more of the press", shop.run(0, 1), 1);
        shop.work(0, 1, 180, 99);
        shop.press(2000);
        Check.is("8099 by 202", shop.overloads(0), 180);
        Check.refuses("it tilts", STATE, () -> shop.run(0, 1));
        Check.refuses("and can't be changed to", UNSUPPORTED, () -> shop.change(0));
        shop.die(0, false);
        Check.is("another one", shop.change(1), 31);
        Check.refuses("not back", UNSUPPORTED, () -> shop.change(0));
        Check.is("no minute passed", shop.pass(1), 28 + 1 + 1 + 31 + 1);
    }
}
