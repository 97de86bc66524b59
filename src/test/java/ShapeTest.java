import java.util.NoSuchElementException;
import java.util.Random;

/** Promises 6 to 11. */
final class ShapeTest {
    private static final Class<IllegalArgumentException> ARGUMENT = IllegalArgumentException.class;
    private static final Class<IllegalStateException> STATE = IllegalStateException.class;
    private static final Class<IndexOutOfBoundsException> INDEX = IndexOutOfBoundsException.class;
    private static final Class<UnsupportedOperationException> UNSUPPORTED = UnsupportedOperationException.class;
    private static final Class<NoSuchElementException> NONE = NoSuchElementException.class;

    public static void main(String[] args) {
        parts();
        draws();
        emptyShapes();
        corners();
        pairs();
        ties();
        bars();
        twoCells();
        lyingAnywhere();
        shares();
        revisions();
        limits();
        anyShapes();
        Check.end();
    }

    private static void parts() {
        StrikeStrip shop = new StrikeStrip();
        Check.refuses("alloy -1", ARGUMENT, () -> shop.part(-1, 100));
        Check.refuses("alloy 4", ARGUMENT, () -> shop.part(4, 100));
        Check.refuses("thickness 19", ARGUMENT, () -> shop.part(0, 19));
        Check.refuses("thickness 601", ARGUMENT, () -> shop.part(0, 601));
        for (int i = 0; i < 8; i++) {
            Check.is("the number of a part", shop.part(i % 4, i % 2 == 0 ? 20 : 600), i);
        }
        Check.refuses("the 9th part", STATE, () -> shop.part(0, 100));
        Check.refuses("a wrong 9th part", ARGUMENT, () -> shop.part(0, 19));
    }

    private static void draws() {
        StrikeStrip shop = new StrikeStrip();
        shop.part(0, 100);
        Check.refuses("part -1", INDEX, () -> shop.draw(-1, 0, 0, 1, 1));
        Check.refuses("part 1, off the board", INDEX, () -> shop.draw(1, 8, 0, 1, 1));
        int[][] wrong = {{-1, 0, 1, 1}, {0, -1, 1, 1}, {8, 0, 1, 1}, {0, 8, 1, 1}, {0, 0, 9, 1}, {0, 0, 1, 9},
            {5, 0, 4, 1}, {0, 5, 1, 4}, {0, 0, 0, 1}, {0, 0, 1, 0}, {0, 0, -1, 1}, {0, 0, 1, -1},
            {1, 0, Integer.MAX_VALUE, 1}, {0, 1, 1, Integer.MAX_VALUE}, {Integer.MIN_VALUE, 0, 1, 1},
            {Integer.MAX_VALUE, 0, 1, 1}, {0, 0, Integer.MIN_VALUE, 1}};
        for (int[] box : wrong) {
            Check.refuses("a box off the board", ARGUMENT, () -> shop.draw(0, box[0], box[1], box[2], box[3]));
        }
        Check.is("a cell in a corner", shop.draw(0, 7, 7, 1, 1), 1);
        Check.is("the same one", shop.draw(0, 7, 7, 1, 1), 1);
        Check.is("a box", shop.draw(0, 2, 1, 3, 2), 7);
        Check.is("a box over it", shop.draw(0, 4, 2, 2, 2), 10);
        shop.die(0, false);
        Check.refuses("a part with a die", UNSUPPORTED, () -> shop.draw(0, 0, 0, 1, 1));
        Check.refuses("a box off the board, with a die", ARGUMENT, () -> shop.draw(0, 8, 0, 1, 1));
        shop.part(0, 100);
        Check.is("another part without a die", shop.draw(1, 0, 0, 8, 8), 64);
        Check.is("the pitch of a whole board", shop.pitch(1, false), 9);
        Check.is("its height", shop.height(1, false), 10);
        Check.is("what it uses", shop.used(1, false), 711);
    }

    private static void emptyShapes() {
        StrikeStrip shop = new StrikeStrip();
        shop.part(0, 100);
        for (boolean isPair : new boolean[] {false, true}) {
            Check.refuses("pitch without a part", INDEX, () -> shop.pitch(1, isPair));
            Check.refuses("height without a part", INDEX, () -> shop.height(-1, isPair));
            Check.refuses("used without a part", INDEX, () -> shop.used(8, isPair));
            Check.refuses("pitch of nothing", NONE, () -> shop.pitch(0, isPair));
            Check.refuses("height of nothing", NONE, () -> shop.height(0, isPair));
            Check.refuses("used of nothing", NONE, () -> shop.used(0, isPair));
        }
    }

    private static void corners() {
        StrikeStrip shop = new StrikeStrip();
        shop.part(0, 100);
        shop.draw(0, 0, 0, 1, 1);
        Check.is("the pitch of a cell", shop.pitch(0, false), 2);
        Check.is("the height of a cell", shop.height(0, false), 3);
        Check.is("what a cell uses", shop.used(0, false), 166);
        shop.draw(0, 3, 1, 1, 1);
        Check.is("across corners, by twice the pitch, too", shop.pitch(0, false), 5);
        StrikeStrip other = new StrikeStrip();
        other.part(0, 100);
        other.draw(0, 0, 0, 1, 1);
        other.draw(0, 3, 2, 1, 1);
        Check.is("a row lies between", other.pitch(0, false), 2);
        Check.is("its height", other.height(0, false), 5);
    }

    private static void pairs() {
        StrikeStrip shop = new StrikeStrip();
        shop.part(0, 100);
        shop.draw(0, 0, 0, 4, 1);
        shop.draw(0, 0, 0, 1, 4);
        Check.is("the pitch of two angles", shop.pitch(0, true), 5);
        Check.is("their height", shop.height(0, true), 8);
        Check.is("what they use", shop.used(0, true), 350);
        shop.part(0, 100);
        shop.draw(1, 3, 3, 1, 1);
        Check.is("the pitch of two cells", shop.pitch(1, true), 2);
        Check.is("two cells lie above each other", shop.height(1, true), 5);
        shop.part(0, 100);
        shop.draw(2, 0, 0, 1, 8);
        Check.is("the pitch of two bars", shop.pitch(2, true), 2);
        Check.is("two bars lie above each other: 38 is less than 40", shop.height(2, true), 19);
        shop.draw(2, 0, 0, 8, 1);
        Check.is("drawn on, it is laid anew", shop.pitch(2, true), leastPair(cells(twoSides())) / 100);
    }

    /** Of pairs with the same product, that with the least pitch is taken. */
    private static void ties() {
        StrikeStrip shop = new StrikeStrip();
        shop.part(0, 100);
        shop.draw(0, 0, 4, 5, 1);
        shop.draw(0, 4, 6, 1, 2);
        Check.is("6 by 8, not 8 by 6", shop.pitch(0, true), 6);
        Check.is("the height of it", shop.height(0, true), 8);
        shop.part(0, 100);
        shop.draw(1, 1, 3, 2, 1);
        shop.draw(1, 7, 3, 1, 2);
        Check.is("8 by 5, not 10 by 4", shop.pitch(1, true), 8);
        Check.is("the height of that", shop.height(1, true), 5);
    }

    private static boolean[][] twoSides() {
        boolean[][] shape = new boolean[8][8];
        for (int i = 0; i < 8; i++) {
            shape[i][0] = true;
            shape[0][i] = true;
        }
        return shape;
    }

    private static void revisions() {
        StrikeStrip shop = new StrikeStrip();
        shop.part(0, 100);
        Check.refuses("a part that is not", INDEX, () -> shop.revise(1, 100));
        Check.refuses("part -1", INDEX, () -> shop.revise(-1, 10));
        Check.refuses("limit -1", ARGUMENT, () -> shop.revise(0, -1));
        Check.refuses("limit 100", ARGUMENT, () -> shop.revise(0, 100));
        Check.is("the first revision", shop.revise(0, 0), 1);
        Check.is("the next one", shop.revise(0, 99), 2);
        for (int i = 3; i <= 500; i++) {
            Check.is("a later one", shop.revise(0, 20), i);
        }
        Check.is("stock of the last one", shop.stock(0, 500), 0);
        Check.refuses("stock of the next one", INDEX, () -> shop.stock(0, 501));
    }

    /** Any shapes, against sets of cells that are moved one by one. */
    private static void anyShapes() {
        Random random = new Random(7);
        for (int round = 0; round < 60; round++) {
            boolean[][] shape = new boolean[8][8];
            StrikeStrip shop = new StrikeStrip();
            shop.part(0, 100);
            for (int box = 1 + random.nextInt(4); box > 0; box--) {
                drawAny(shop, shape, random);
            }
            int[][] cells = cells(shape);
            int alone = leastAlone(cells);
            int pair = leastPair(cells);
            int rows = rows(cells) + 2;
            Check.is("the pitch", shop.pitch(0, false), alone);
            Check.is("the height", shop.height(0, false), rows);
            Check.is("what is used", shop.used(0, false), 1000 * cells.length / (alone * rows));
            Check.is("the pitch of the pair", shop.pitch(0, true), pair / 100);
            Check.is("the height of the pair", shop.height(0, true), pair % 100);
            Check.is("what the pair uses", shop.used(0, true), 2000 * cells.length / (pair / 100 * (pair % 100)));
        }
    }

    private static void drawAny(StrikeStrip shop, boolean[][] shape, Random random) {
        int x = random.nextInt(8);
        int y = random.nextInt(8);
        int columns = 1 + random.nextInt(Math.min(3, 8 - x));
        int rows = 1 + random.nextInt(Math.min(3, 8 - y));
        int count = 0;
        for (int i = 0; i < 64; i++) {
            int column = i % 8;
            int row = i / 8;
            shape[column][row] |= column >= x && column < x + columns && row >= y && row < y + rows;
            count += shape[column][row] ? 1 : 0;
        }
        Check.is("the cells", shop.draw(0, x, y, columns, rows), count);
    }

    private static int[][] cells(boolean[][] shape) {
        int[][] cells = new int[64][];
        int count = 0;
        for (int i = 0; i < 64; i++) {
            if (shape[i % 8][i / 8]) {
                cells[count++] = new int[] {i % 8, i / 8};
            }
        }
        return java.util.Arrays.copyOf(cells, count);
    }

    private static int rows(int[][] cells) {
        int first = 99;
        int last = -99;
        for (int[] cell : cells) {
            first = Math.min(first, cell[1]);
            last = Math.max(last, cell[1]);
        }
        return last - first + 1;
    }

    private static int leastAlone(int[][] cells) {
        for (int pitch = 1;; pitch++) {
            if (isClearAlong(cells, cells, pitch, 1)) {
                return pitch;
            }
        }
    }

    /** The pitch of the pair taken times 100, and the height of its strip. */
    private static int leastPair(int[][] cells) {
        int best = 0;
        int bestProduct = Integer.MAX_VALUE;
        for (int columns = -10; columns <= 10; columns++) {
            for (int rows = -10; rows <= 10; rows++) {
                int[][] turned = new int[cells.length][];
                int[][] both = java.util.Arrays.copyOf(cells, 2 * cells.length);
                for (int i = 0; i < cells.length; i++) {
                    turned[i] = new int[] {7 - cells[i][0] + columns, 7 - cells[i][1] + rows};
                    both[cells.length + i] = turned[i];
                }
                if (!areClear(cells, turned, 0)) {
                    continue;
                }
                int pitch = 1;
                while (!isClearAlong(cells, cells, pitch, 1) || !isClearAlong(turned, turned, pitch, 1)
                        || !isClearAlong(cells, turned, pitch, 1) || !isClearAlong(turned, cells, pitch, 1)) {
                    pitch++;
                }
                int height = rows(both) + 2;
                int product = pitch * height;
                if (product < bestProduct || product == bestProduct && pitch < best / 100) {
                    bestProduct = product;
                    best = 100 * pitch + height;
                }
            }
        }
        return best;
    }

    private static boolean isClearAlong(int[][] one, int[][] other, int pitch, int first) {
        for (int times = first; times * pitch <= 30; times++) {
            if (!areClear(one, other, times * pitch)) {
                return false;
            }
        }
        return true;
    }

    private static boolean areClear(int[][] one, int[][] other, int moved) {
        for (int[] cell : one) {
            for (int[] next : other) {
                if (Math.abs(next[0] + moved - cell[0]) < 2 && Math.abs(next[1] - cell[1]) < 2) {
                    return false;
                }
            }
        }
        return true;
    }

    /** One empty cell lies between: a bar of so many columns needs one more, at whatever row it is. */
    private static void bars() {
        for (int columns = 1; columns <= 8; columns++) {
            StrikeStrip shop = new StrikeStrip();
            for (int rows = 1; rows <= 8; rows++) {
                shop.part(0, 100);
                Check.is("the cells", shop.draw(rows - 1, 8 - columns, 8 - rows, columns, rows), columns * rows);
                Check.is("the pitch", shop.pitch(rows - 1, false), columns + 1);
                Check.is("the height", shop.height(rows - 1, false), rows + 2);
                Check.is("used", shop.used(rows - 1, false), 1000 * columns * rows / ((columns + 1) * (rows + 2)));
                // Above each other they take 2 rows + 3, beside each other 2 columns + 2 at rows + 2.
                int above = (columns + 1) * (2 * rows + 3);
                int beside = (2 * columns + 2) * (rows + 2);
                Check.isTrue("above each other is less", above < beside);
                Check.is("the pitch of the pair", shop.pitch(rows - 1, true), columns + 1);
                Check.is("the height of the pair", shop.height(rows - 1, true), 2 * rows + 3);
            }
        }
    }

    /** A cell in a corner, and another one: the pitch by how far that is off. */
    private static void twoCells() {
        // No multiple of it is a column fewer or more than the other cell: by 6, 4 and 8 are not, 2 and 3 lead to 6.
        int[] dues = {2, 3, 4, 5, 6, 7, 4, 5};
        for (int column = 0; column < 8; column++) {
            for (int row = 0; row < 3; row++) {
                StrikeStrip shop = new StrikeStrip();
                shop.part(0, 100);
                shop.draw(0, 0, 0, 1, 1);
                shop.draw(0, column, row, 1, 1);
                // With a row between them the other cell is never near.
                int due = row == 2 ? 2 : dues[column];
                Check.is("the pitch of a cell and " + column + ", " + row, shop.pitch(0, false), due);
            }
        }
    }

    /** A shape lies the same wherever on the board it is drawn: also its pair, which is moved by up to 9. */
    private static void lyingAnywhere() {
        for (int x = 0; x <= 5; x += 5) {
            for (int y = 0; y <= 5; y += 5) {
                StrikeStrip shop = new StrikeStrip();
                shop.part(0, 100);
                shop.draw(0, x, y, 3, 1);
                shop.draw(0, x, y, 1, 3);
                Check.is("the pitch", shop.pitch(0, false), 4);
                Check.is("the height", shop.height(0, false), 5);
                Check.is("the pitch of the pair", shop.pitch(0, true), leastPair(angle(x, y)) / 100);
                Check.is("the height of the pair", shop.height(0, true), leastPair(angle(x, y)) % 100);
                Check.is("the same as in a corner", leastPair(angle(x, y)), leastPair(angle(0, 0)));
            }
        }
    }

    private static int[][] angle(int x, int y) {
        return new int[][] {{x, y}, {x + 1, y}, {x + 2, y}, {x, y + 1}, {x, y + 2}};
    }

    private static void shares() {
        StrikeStrip shop = new StrikeStrip();
        shop.part(0, 100);
        shop.draw(0, 0, 0, 1, 1);
        Check.is("1 of 6, rounded down", shop.used(0, false), 166);
        Check.is("2 of 10, just so", shop.used(0, true), 200);
        shop.draw(0, 1, 0, 1, 1);
        Check.is("2 of 9", shop.used(0, false), 222);
        Check.is("4 of 15", shop.used(0, true), 266);
        shop.draw(0, 0, 0, 8, 8);
        Check.is("64 of 90", shop.used(0, false), 711);
        Check.is("128 of 171", shop.used(0, true), 748);
    }

    /** A stroke is good as long as its burr is not more than the limit: with 0 and with 99, too. */
    private static void limits() {
        StrikeStrip shop = Shops.ready(100000);
        shop.revise(0, 0);
        Check.is("no burr up to a wear of 49", shop.run(0, 600), 50);
        Check.is("the end", shop.ended(), 'b');
        Check.is("the strokes", shop.strokes(0), 51);
        shop.revise(0, 99);
        int good = 50;
        for (int i = 0; i < 8; i++) {
            good += shop.run(0, 600);
        }
        Check.is("all that were struck", good, 50 + 4800);
        Check.is("a burr of 97", shop.burr(0), 97);
        Check.is("up to a wear of 4999", shop.run(0, 600), 5000 - 4851);
        Check.is("the end at 100", shop.ended(), 'b');
        Check.is("the burr", shop.burr(0), 100);
    }
}
