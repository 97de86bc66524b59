import java.util.HashSet;
import java.util.NoSuchElementException;
import java.util.Random;
import java.util.Set;

/** Promises 12 to 15. */
final class BendTest {
    private static final Class<IllegalArgumentException> ARGUMENT = IllegalArgumentException.class;
    private static final Class<IllegalStateException> STATE = IllegalStateException.class;
    private static final Class<IndexOutOfBoundsException> INDEX = IndexOutOfBoundsException.class;
    private static final Class<NoSuchElementException> NONE = NoSuchElementException.class;

    public static void main(String[] args) {
        profiles();
        orders();
        longest();
        lengths();
        anyProfiles();
        closing();
        anew();
        roundedLengths();
        Check.end();
    }

    private static void profiles() {
        StrikeStrip shop = new StrikeStrip();
        Check.refuses("a bend ahead of a profile", STATE, () -> shop.bend(true, 1));
        Check.refuses("a wrong one", ARGUMENT, () -> shop.bend(true, 0));
        Check.refuses("an order ahead of a profile", INDEX, () -> shop.bendAt(0));
        Check.refuses("length 0", ARGUMENT, () -> shop.profile(0));
        Check.refuses("length 10", ARGUMENT, () -> shop.profile(10));
        Check.is("the first profile", shop.profile(1), 0);
        Check.refuses("an order of no bends", INDEX, () -> shop.bendAt(0));
        Check.is("the next one", shop.profile(9), 0);
        Check.refuses("stretch 0", ARGUMENT, () -> shop.bend(false, 0));
        Check.refuses("stretch 10", ARGUMENT, () -> shop.bend(false, 10));
        for (int i = 1; i <= 6; i++) {
            Check.is("a bend", shop.bend(i % 2 == 0, i % 2 == 0 ? 9 : 1), i);
        }
        Check.refuses("a 7th bend", STATE, () -> shop.bend(true, 1));
        Check.refuses("a wrong 7th bend", ARGUMENT, () -> shop.bend(true, 10));
        Check.refuses("a wrong profile", ARGUMENT, () -> shop.profile(-1));
        Check.is("a profile behind that one", shop.profile(1), 6);
        Check.is("and one behind it", shop.profile(1), 0);
    }

    private static void orders() {
        StrikeStrip shop = new StrikeStrip();
        shop.profile(4);
        shop.bend(true, 1);
        Check.is("one bend", shop.bendAt(0), 0);
        shop.bend(true, 3);
        shop.bend(true, 3);
        Check.refuses("no good order", NONE, () -> shop.bendAt(0));
        Check.refuses("behind the last bend", INDEX, () -> shop.bendAt(3));
        Check.refuses("ahead of the first one", INDEX, () -> shop.bendAt(-1));
        shop.profile(2);
        shop.bend(true, 1);
        shop.bend(true, 1);
        shop.bend(false, 1);
        Check.is("a short profile, first", shop.bendAt(0), 0);
        Check.is("second", shop.bendAt(1), 1);
        Check.is("third", shop.bendAt(2), 2);
        // Flat behind the third bend, the last stretch would meet the first one.
        shop.profile(1);
        shop.bend(true, 2);
        shop.bend(true, 1);
        shop.bend(true, 1);
        shop.bend(false, 1);
        int[] due = {0, 1, 3, 2};
        for (int i = 0; i < 4; i++) {
            Check.is("the last bend ahead of the third", shop.bendAt(i), due[i]);
        }
    }

    private static void longest() {
        StrikeStrip shop = new StrikeStrip();
        shop.profile(9);
        for (int i = 0; i < 6; i++) {
            shop.bend(i % 2 == 0, 9);
        }
        for (int i = 0; i < 6; i++) {
            Check.is("the order of a stair", shop.bendAt(i), i);
        }
        Check.is("its length", shop.unfolded(0, 20), 6300 + 6 * 12);
    }

    private static void lengths() {
        StrikeStrip shop = new StrikeStrip();
        Check.refuses("unfolded ahead of a profile", STATE, () -> shop.unfolded(0, 20));
        Check.refuses("and with a wrong number", ARGUMENT, () -> shop.unfolded(0, 19));
        shop.profile(4);
        Check.is("a flat one", shop.unfolded(999, 600), 400);
        shop.bend(true, 9);
        Check.is("one bend", shop.unfolded(0, 20), 1300 + 12);
        Check.is("of the thickest", shop.unfolded(999, 600), 1300 + 1945);
        Check.is("the fifth is rounded down", shop.unfolded(1, 22), 1300 + 14);
        shop.bend(false, 1);
        Check.is("two bends, each rounded down", shop.unfolded(100, 100), 1400 + 2 * 219);
        Check.refuses("radius -1", ARGUMENT, () -> shop.unfolded(-1, 100));
        Check.refuses("radius 1000", ARGUMENT, () -> shop.unfolded(1000, 100));
        Check.refuses("thickness 19", ARGUMENT, () -> shop.unfolded(0, 19));
        Check.refuses("thickness 601", ARGUMENT, () -> shop.unfolded(0, 601));
    }

    /** Any profiles, against all orders tried by rising numbers. */
    private static void anyProfiles() {
        Random random = new Random(11);
        int without = 0;
        int unlikeRising = 0;
        for (int round = 0; round < 3000; round++) {
            int bends = 1 + random.nextInt(6);
            int longest = 1 + random.nextInt(9);
            int[] lengths = new int[bends + 1];
            boolean[] areLeft = new boolean[bends];
            StrikeStrip shop = new StrikeStrip();
            lengths[0] = 1 + random.nextInt(longest);
            shop.profile(lengths[0]);
            for (int i = 0; i < bends; i++) {
                lengths[i + 1] = 1 + random.nextInt(longest);
                areLeft[i] = random.nextInt(4) > 0;
                Check.is("bend", shop.bend(areLeft[i], lengths[i + 1]), i + 1);
            }
            int[] order = new int[bends];
            if (!find(lengths, areLeft, order, 0, 0)) {
                without++;
                Check.refuses("no order", NONE, () -> shop.bendAt(bends - 1));
                continue;
            }
            for (int i = 0; i < bends; i++) {
                Check.is("the order", shop.bendAt(i), order[i]);
                unlikeRising += order[i] != i ? 1 : 0;
            }
        }
        Check.isTrue("profiles without an order were tried", without > 20);
        Check.isTrue("and orders that do not rise", unlikeRising > 20);
    }

    private static boolean find(int[] lengths, boolean[] areLeft, int[] order, int place, int made) {
        if (place == order.length) {
            return true;
        }
        for (int bend = 0; bend < order.length; bend++) {
            int next = made | 1 << bend;
            if (next == made || meets(lengths, areLeft, next)) {
                continue;
            }
            order[place] = bend;
            if (find(lengths, areLeft, order, place + 1, next)) {
                return true;
            }
        }
        return false;
    }

    private static boolean meets(int[] lengths, boolean[] areLeft, int made) {
        int[][] ways = {{1, 0}, {0, 1}, {-1, 0}, {0, -1}};
        Set<String> places = new HashSet<>();
        int x = 0;
        int y = 0;
        int way = 0;
        places.add("0 0");
        for (int stretch = 0; stretch < lengths.length; stretch++) {
            if (stretch > 0 && (made & 1 << stretch - 1) != 0) {
                way = (way + (areLeft[stretch - 1] ? 1 : 3)) % 4;
            }
            for (int i = 0; i < lengths[stretch]; i++) {
                x += ways[way][0];
                y += ways[way][1];
                if (!places.add(x + " " + y)) {
                    return true;
                }
            }
        }
        return false;
    }

    /** Four stretches of 2: the last point is the first one's, or one short of it, or the first one is crossed. */
    private static void closing() {
        for (boolean isLeft : new boolean[] {false, true}) {
            for (int last = 1; last <= 3; last++) {
                StrikeStrip shop = new StrikeStrip();
                shop.profile(2);
                shop.bend(isLeft, 2);
                shop.bend(isLeft, 2);
                shop.bend(isLeft, last);
                if (last == 1) {
                    Check.is("one short of it", shop.bendAt(0) * 100 + shop.bendAt(1) * 10 + shop.bendAt(2), 12);
                } else {
                    Check.refuses("a profile that meets itself", NONE, () -> shop.bendAt(0));
                }
            }
        }
        // The last stretch comes to the middle of the first one, or ends a point ahead of it.
        for (int last = 1; last <= 2; last++) {
            StrikeStrip shop = new StrikeStrip();
            shop.profile(9);
            shop.bend(true, 2);
            shop.bend(true, 4);
            shop.bend(true, last);
            if (last == 1) {
                Check.is("ahead of the middle", shop.bendAt(2), 2);
            } else {
                Check.refuses("at the middle", NONE, () -> shop.bendAt(2));
            }
        }
        // Half made it would meet itself, so that it is bent from the end on.
        StrikeStrip shop = new StrikeStrip();
        shop.profile(1);
        shop.bend(true, 1);
        shop.bend(true, 2);
        shop.bend(false, 1);
        Check.is("a good order", shop.bendAt(0) * 100 + shop.bendAt(1) * 10 + shop.bendAt(2), 12);
    }

    /** What was asked for ahead of a bend or a new profile is not kept. */
    private static void anew() {
        StrikeStrip shop = new StrikeStrip();
        shop.profile(2);
        shop.bend(true, 2);
        shop.bend(true, 2);
        Check.is("a good order of two", shop.bendAt(1), 1);
        shop.bend(true, 2);
        Check.refuses("none of three", NONE, () -> shop.bendAt(1));
        Check.is("anew", shop.profile(2), 3);
        Check.refuses("no bends", INDEX, () -> shop.bendAt(0));
        Check.is("its length", shop.unfolded(999, 600), 200);
        shop.bend(false, 1);
        Check.is("a good order of one", shop.bendAt(0), 0);
        Check.refuses("not of two", INDEX, () -> shop.bendAt(1));
        Check.is("a profile of two", shop.bend(false, 1), 2);
        Check.is("its second one", shop.bendAt(1), 1);
    }

    /** Two fifths of the thickness are taken together with the radius, and rounded down; then the bend is. */
    private static void roundedLengths() {
        int[][] dues = {{0, 20, 12}, {0, 22, 12}, {0, 23, 14}, {0, 24, 14}, {0, 25, 15}, {1, 20, 14}, {91, 20, 155},
            {92, 20, 157}, {92, 22, 157}, {92, 23, 158}, {991, 21, 1568}, {992, 20, 1570}, {999, 600, 1945}};
        for (int[] due : dues) {
            StrikeStrip shop = new StrikeStrip();
            shop.profile(9);
            for (int bends = 1; bends <= 6; bends++) {
                shop.bend(bends % 2 == 0, 9);
                Check.is("a bend of " + due[0] + " and " + due[1], shop.unfolded(due[0], due[1]),
                        900 * (bends + 1) + bends * due[2]);
            }
        }
    }
}
