/** Promises 16 to 19. */
final class CupTest {
    private static final Class<IllegalArgumentException> ARGUMENT = IllegalArgumentException.class;

    public static void main(String[] args) {
        discs();
        draws();
        refusals();
        tries();
        roundedDraws();
        wholeDiscs();
        roundedSprings();
        Check.end();
    }

    private static void discs() {
        StrikeStrip shop = new StrikeStrip();
        Check.is("a disc", shop.disc(50, 40), 103);
        Check.is("the flattest", shop.disc(999, 0), 999);
        Check.is("the least", shop.disc(1, 0), 1);
        Check.is("the greatest", shop.disc(999, 999), 2234);
        Check.is("a whole root", shop.disc(4, 3), 8);
        for (int diameter = 1; diameter < 999; diameter += 13) {
            StrikeStrip next = new StrikeStrip();
            for (int height = 0; height < 999; height += 31) {
                long square = (long) diameter * diameter + 4L * diameter * height;
                long due = (long) Math.ceil(Math.sqrt(square));
                Check.is("a disc", next.disc(diameter, height), due);
            }
        }
    }

    private static void draws() {
        StrikeStrip shop = new StrikeStrip();
        Check.is("two", shop.draws(50, 40, false), 2);
        Check.is("five", shop.draws(50, 200, false), 5);
        Check.is("four, annealed", shop.draws(50, 200, true), 4);
        Check.is("as wide as the cup", shop.draws(999, 0, true), 0);
        Check.is("one", shop.draws(999, 1, false), 1);
        // Both discs are 100 wide: 55 is what a draw bears, 54 is not.
        Check.is("just one", shop.draws(55, 31, false), 1);
        Check.is("one more", shop.draws(54, 32, false), 2);
        // A disc of 200 becomes 110, and then 86 or, annealed, 77.
        Check.is("86 by two", shop.draws(86, 94, false), 2);
        Check.is("85 by three", shop.draws(85, 96, false), 3);
        Check.is("77 by two, annealed", shop.draws(77, 110, true), 2);
        Check.is("76 by three, annealed", shop.draws(76, 112, true), 3);
        // 3, 2, 1: each narrower by 1 at least.
        Check.is("by one", shop.draws(1, 2, false), 2);
        // 45: 25, 20, 16, 13, 11, 9, 8, 7, 6, 5, 4, 3, 2, 1.
        Check.is("by one, at last", shop.draws(1, 500, false), 14);
        for (int diameter = 1; diameter <= 999; diameter += 4) {
            StrikeStrip next = new StrikeStrip();
            for (int height = 0; height <= 999; height += 9) {
                int wide = next.disc(diameter, height);
                Check.is("draws", next.draws(diameter, height, false), counted(wide, diameter, 78));
                Check.is("draws, annealed", next.draws(diameter, height, true), counted(wide, diameter, 70));
            }
        }
    }

    private static int counted(int disc, int diameter, int second) {
        int draws = 0;
        for (int wide = disc; wide > diameter; draws++) {
            int hundredths = wide * (draws == 0 ? 55 : draws == 1 ? second : 78);
            int least = hundredths / 100 + (hundredths % 100 == 0 ? 0 : 1);
            wide = least < wide ? least : wide - 1;
        }
        return draws;
    }

    private static void refusals() {
        StrikeStrip shop = new StrikeStrip();
        int[][] wrong = {{0, 0}, {1000, 0}, {1, -1}, {1, 1000}, {-1, 0}};
        for (int[] cup : wrong) {
            Check.refuses("a disc", ARGUMENT, () -> shop.disc(cup[0], cup[1]));
            Check.refuses("draws", ARGUMENT, () -> shop.draws(cup[0], cup[1], false));
            Check.refuses("draws, annealed", ARGUMENT, () -> shop.draws(cup[0], cup[1], true));
        }
        int[][] angles = {{0, 0}, {18001, 0}, {1, -1}, {1, 301}};
        for (int[] angle : angles) {
            Check.refuses("tried", ARGUMENT, () -> shop.tried(angle[0], angle[1]));
            Check.refuses("tries", ARGUMENT, () -> shop.tries(angle[0], angle[1]));
        }
    }

    private static void tries() {
        StrikeStrip shop = new StrikeStrip();
        Check.is("the tool", shop.tried(9000, 50), 9473);
        Check.is("how often", shop.tries(9000, 50), 4);
        Check.is("without a spring", shop.tries(18000, 0), 1);
        Check.is("its tool", shop.tried(18000, 0), 18000);
        Check.is("the least", shop.tried(1, 300), 1);
        Check.is("once", shop.tries(1, 300), 1);
        int most = 0;
        for (int angle = 1; angle <= 18000; angle += 7) {
            StrikeStrip next = new StrikeStrip();
            for (int spring = 0; spring <= 300; spring += 3) {
                int tool = angle;
                int struck = 0;
                boolean isRight = false;
                while (!isRight && struck < 20) {
                    struck++;
                    int part = tool - (int) Math.floor(tool * spring / 1000.0);
                    isRight = part == angle;
                    tool += angle - part;
                }
                most = Math.max(most, struck);
                Check.is("tried", next.tried(angle, spring), tool);
                Check.is("tries", next.tries(angle, spring), struck);
            }
        }
        Check.isTrue("many tries were told", most > 8);
    }

    /** Hundredths that are whole, and those that are rounded up, at each draw. */
    private static void roundedDraws() {
        StrikeStrip shop = new StrikeStrip();
        Check.is("a disc of 20", shop.disc(11, 6), 20);
        Check.is("55 hundredths of 20 are 11", shop.draws(11, 6, false), 1);
        Check.is("a disc of 20 for 10", shop.disc(10, 7), 20);
        Check.is("10 is narrower", shop.draws(10, 7, false), 2);
        Check.is("a disc of 21", shop.disc(11, 7), 21);
        Check.is("55 hundredths of 21 are 12", shop.draws(11, 7, false), 2);
        Check.is("a disc of 21 for 12", shop.disc(12, 6), 21);
        Check.is("which 12 is", shop.draws(12, 6, false), 1);
        // 200, 110, 77, and then 78 hundredths again, 61: it is annealed but once.
        Check.is("a disc of 200", shop.disc(61, 148), 200);
        Check.is("annealed ahead of the second draw", shop.draws(61, 148, true), 3);
        Check.is("and not ahead of the third one", shop.draws(60, 151, true), 4);
        Check.is("a disc of 200 for 60", shop.disc(60, 151), 200);
        // 200, 110, 86, 68.
        Check.is("not annealed", shop.draws(68, 131, false), 3);
        Check.is("67 is one more", shop.draws(67, 133, false), 4);
        Check.is("the first draw is not annealed", shop.draws(109, 65, true), 2);
    }

    private static void wholeDiscs() {
        StrikeStrip shop = new StrikeStrip();
        // 64 is a whole square; 60 and 68 are not.
        Check.is("60", shop.disc(2, 7), 8);
        Check.is("64", shop.disc(4, 3), 8);
        Check.is("68", shop.disc(2, 8), 9);
        Check.is("1 and 8", shop.disc(1, 2), 3);
        Check.is("1 and 12", shop.disc(1, 3), 4);
        for (int diameter = 1; diameter <= 999; diameter += 499) {
            Check.is("no height", shop.disc(diameter, 0), diameter);
            Check.is("no draw", shop.draws(diameter, 0, false), 0);
            Check.is("no draw, annealed", shop.draws(diameter, 0, true), 0);
            Check.isTrue("a height of 1", shop.disc(diameter, 1) > diameter);
            Check.isTrue("a draw", shop.draws(diameter, 1, false) > 0);
        }
    }

    /** A spring of a whole hundredth, and one just below it. */
    private static void roundedSprings() {
        StrikeStrip shop = new StrikeStrip();
        Check.is("999 thousandths are none", shop.tries(999, 1), 1);
        Check.is("so that the tool is right", shop.tried(999, 1), 999);
        Check.is("1000 thousandths are one", shop.tries(1000, 1), 2);
        Check.is("so that it is added", shop.tried(1000, 1), 1001);
        Check.is("1.998 are one", shop.tried(1997, 1), 1998);
        // 1999 has a spring of 1, and 2000 one of 2, for which 2001 is wanted.
        Check.is("what is added springs, too", shop.tried(1999, 1), 2001);
        Check.is("three times", shop.tries(1999, 1), 3);
        Check.is("0.9 is none", shop.tries(3, 300), 1);
        Check.is("1.2 is one", shop.tried(4, 300), 5);
        Check.is("1.5, too", shop.tries(4, 300), 2);
        Check.is("a part that is right adds nothing", shop.tried(5, 300), 6);
        Check.is("the greatest spring of the greatest angle", shop.tried(18000, 300), 25713);
    }
}
