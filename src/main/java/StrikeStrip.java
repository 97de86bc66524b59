import java.util.ArrayList;
import java.util.Arrays;
import java.util.NoSuchElementException;

/** A shop that strikes sheet metal by dies. */
public final class StrikeStrip {
    /** An object is used for at most so many calls; rows that grow by calls are as long. */
    private static final int LIFE = 512;
    private static final int ALLOYS = 4;
    private static final int COILS = 12;
    private static final int PARTS = 8;
    private static final int DIES = 8;
    private static final int WORKS = 8;
    private static final int BENDS = 6;
    private static final int CALLS = 40;
    private static final int RACKS = 20;

    private static final int LEAST_THICKNESS = 20;
    private static final int MOST_THICKNESS = 600;
    private static final int LEAST_WIDTH = 10;
    private static final int MOST_WIDTH = 500;
    private static final int LONGEST_COIL = 100000;
    private static final int THICKNESS_PLAY = 5;

    /** Hundredths of a gram for a cubic centimetre, so that weights are whole in ten thousandths of a milligram. */
    private static final int[] WEIGHTS = {785, 270, 896, 850};
    private static final long MILLIGRAM = 10000;
    private static final long KILOGRAM = 1000000 * MILLIGRAM;
    private static final int FIRST_PRICE = 100;
    private static final int MOST_PRICE = 9999;

    private static final int BOARD = 8;
    private static final int CELL = 5;
    private static final int STRIP_EDGES = 2;
    private static final int FARTHEST_MOVE = 10;
    /** Shapes of two boards that are moved by more than so many columns are always clear of each other. */
    private static final int NEAR = 8;
    /** From a move by 10, each whole step of this pitch leads beyond what is near. */
    private static final int WIDEST_PITCH = 19;

    private static final int LONGEST_STRETCH = 9;
    private static final int MOST_RADIUS = 999;
    private static final int MOST_CUP = 999;
    /** The square of the disc is at most 5 times that of 999. */
    private static final int WIDEST_DISC = 2234;
    private static final int FIRST_DRAW = 55;
    private static final int LATER_DRAW = 78;
    private static final int ANNEALED_DRAW = 70;
    private static final int MOST_ANGLE = 18000;
    private static final int MOST_SPRING = 300;
    private static final int MOST_TRIES = 20;

    private static final int MOST_FORCE = 400;
    private static final int STATION_FORCE = 500;
    private static final int FIRST_DEGREE = 90;
    private static final int BOTTOM = 180;
    private static final int TURN = 360;
    private static final int FARTHEST_PLACE = 99;
    private static final int MOST_TILT = 40;
    private static final int FULL_FORCE_HEIGHT = 30;
    private static final int FINGER_HEIGHT = 60;
    private static final int LEAST_PRESS = 10;
    private static final int MOST_PRESS = 2000;

    private static final int FIRST_SENSOR = 90;
    private static final int SENSOR_FROM = 30;
    private static final int SENSOR_TO = 150;
    private static final int BEST_CLEARANCE = 8;
    private static final int MOST_CLEARANCE = 30;
    private static final int WEAR_FOR_BURR = 50;
    private static final int FIRST_LIMIT = 20;
    private static final int MOST_LIMIT = 99;
    private static final int PUNCH = 5000;
    private static final int SHORTEST_PUNCH = 4800;
    private static final int GRIND = 25;
    private static final int LAST_MISFEED = 99999;
    private static final int MOST_STROKES = 600;
    private static final int STROKES_A_MINUTE = 30;

    /**
     * Two teams do the works of a change in the same way each time: taking out (10), setting (12), the
     * sensors (6) and the first stroke (3) follow each other; all else is done beside them.
     */
    private static final int CHANGE_FROM_OLD = 31;
    /** Without an old one, fetching (7) is what setting waits for; the coil begins at once. */
    private static final int CHANGE_FROM_NONE = 28;

    private static final int MOST_CALLED = 200;
    private static final int RACK = 10;
    private static final int RACK_AWAY = 60;
    private static final int MOST_MINUTES = 1000;

    private final Coil[] coils = new Coil[COILS];
    private final Part[] parts = new Part[PARTS];
    private final Die[] dies = new Die[DIES];
    private final Metal metal = new Metal();
    private final Profile bent = new Profile();
    private final ArrayList<Call> calls = new ArrayList<>();
    private int coilCount;
    private int partCount;
    private int dieCount;
    private int pressForce = 200;
    private Die dieIn;
    private char lastEnd = '-';
    private int minute;

    public StrikeStrip() {
    }

    // ---- coils

    public int coil(int alloy, int thickness, int width, int length)
            throws IllegalArgumentException, IllegalStateException {
        if (!isAlloy(alloy) || !isThickness(thickness) || !isWithin(width, LEAST_WIDTH, MOST_WIDTH)
                || !isWithin(length, 1, LONGEST_COIL)) {
            throw new IllegalArgumentException("a number is out of range");
        }
        if (coilCount >= COILS) {
            throw new IllegalStateException("there are 12 coils");
        }
        Coil bought = new Coil(alloy, thickness, width, length);
        coils[coilCount] = bought;
        metal.bought[alloy] += bought.weigh();
        return coilCount++;
    }

    public int weld(int coil, int other) throws IndexOutOfBoundsException, UnsupportedOperationException {
        Coil front = coilAt(coil);
        Coil back = coilAt(other);
        if (front == back || !front.goesTogether(back)) {
            throw new UnsupportedOperationException("these coils can't be welded");
        }
        front.append(back);
        return front.lengthLeft();
    }

    public int left(int coil) throws IndexOutOfBoundsException {
        return coilAt(coil).lengthLeft();
    }

    public long weight(int coil) throws IndexOutOfBoundsException {
        return coilAt(coil).weigh() / MILLIGRAM;
    }

    private Coil coilAt(int number) {
        if (number < 0 || number >= coils.length || coils[number] == null) {
            throw new IndexOutOfBoundsException("there is no such coil");
        }
        return coils[number];
    }

    // ---- parts and shapes

    public int part(int alloy, int thickness) throws IllegalArgumentException, IllegalStateException {
        if (!isAlloy(alloy) || !isThickness(thickness)) {
            throw new IllegalArgumentException("a number is out of range");
        }
        if (partCount >= PARTS) {
            throw new IllegalStateException("there are 8 parts");
        }
        parts[partCount] = new Part(alloy, thickness);
        return partCount++;
    }

    public int draw(int part, int x, int y, int columns, int rows)
            throws IndexOutOfBoundsException, IllegalArgumentException, UnsupportedOperationException {
        Part drawn = partAt(part);
        if (!isOnBoard(x, columns) || !isOnBoard(y, rows)) {
            throw new IllegalArgumentException("a cell is not on the board");
        }
        if (drawn.hasDie) {
            throw new UnsupportedOperationException("there is a die for the part");
        }
        drawn.shape.fill(x, y, columns, rows);
        return drawn.shape.count();
    }

    public int pitch(int part, boolean isPair) throws IndexOutOfBoundsException, NoSuchElementException {
        return stripOf(part, isPair).pitch;
    }

    public int height(int part, boolean isPair) throws IndexOutOfBoundsException, NoSuchElementException {
        return stripOf(part, isPair).height;
    }

    public int used(int part, boolean isPair) throws IndexOutOfBoundsException, NoSuchElementException {
        Strip strip = stripOf(part, isPair);
        int area = strip.pitch * strip.height;
        return area > 0 ? 1000 * strip.shapes * partAt(part).shape.count() / area : 0;
    }

    public int revise(int part, int limit) throws IndexOutOfBoundsException, IllegalArgumentException {
        Part revised = partAt(part);
        if (!isWithin(limit, 0, MOST_LIMIT)) {
            throw new IllegalArgumentException("the limit is out of range");
        }
        revised.renew(limit);
        return revised.revision;
    }

    private Part partAt(int number) {
        if (number < 0 || number >= parts.length || parts[number] == null) {
            throw new IndexOutOfBoundsException("there is no such part");
        }
        return parts[number];
    }

    private Strip stripOf(int part, boolean isPair) {
        Shape shape = partAt(part).shape;
        if (shape.count() == 0) {
            throw new NoSuchElementException("the shape is empty");
        }
        return shape.strip(isPair);
    }

    private static boolean isOnBoard(int first, int count) {
        return isWithin(first, 0, BOARD - 1) && isWithin(count, 1, BOARD - first);
    }

    // ---- bends, cups, angles

    public int profile(int length) throws IllegalArgumentException {
        if (!isWithin(length, 1, LONGEST_STRETCH)) {
            throw new IllegalArgumentException("the stretch is out of range");
        }
        int before = bent.bends;
        bent.begin(length);
        return before;
    }

    public int bend(boolean isLeft, int length) throws IllegalArgumentException, IllegalStateException {
        if (!isWithin(length, 1, LONGEST_STRETCH)) {
            throw new IllegalArgumentException("the stretch is out of range");
        }
        if (!bent.isBegun() || bent.bends >= BENDS) {
            throw new IllegalStateException("the profile was not begun, or has 6 bends");
        }
        bent.add(isLeft, length);
        return bent.bends;
    }

    public int bendAt(int place) throws IndexOutOfBoundsException, NoSuchElementException {
        if (place < 0 || place >= bent.bends) {
            throw new IndexOutOfBoundsException("the profile has not so many bends");
        }
        if (!bent.hasOrder()) {
            throw new NoSuchElementException("there is no good order");
        }
        return bent.order[place];
    }

    public int unfolded(int radius, int thickness) throws IllegalArgumentException, IllegalStateException {
        if (!isWithin(radius, 0, MOST_RADIUS) || !isThickness(thickness)) {
            throw new IllegalArgumentException("a number is out of range");
        }
        if (!bent.isBegun()) {
            throw new IllegalStateException("the profile was not begun");
        }
        int bow = 157 * ((5 * radius + 2 * thickness) / 5) / 100;
        return 100 * bent.stretched() + bow * bent.bends;
    }

    public int disc(int diameter, int height) throws IllegalArgumentException {
        if (!isCup(diameter, height)) {
            throw new IllegalArgumentException("a number is out of range");
        }
        return discFor(diameter, height);
    }

    public int draws(int diameter, int height, boolean isAnnealed) throws IllegalArgumentException {
        if (!isCup(diameter, height)) {
            throw new IllegalArgumentException("a number is out of range");
        }
        int wide = discFor(diameter, height);
        int made = 0;
        while (wide > diameter && made < WIDEST_DISC) {
            wide = narrowed(wide, made, isAnnealed);
            made++;
        }
        return made;
    }

    public int tried(int angle, int spring) throws IllegalArgumentException {
        if (!isAngle(angle, spring)) {
            throw new IllegalArgumentException("a number is out of range");
        }
        int tool = angle;
        // A tool that is right lacks nothing, so that it may be struck on.
        for (int struck = 0; struck < MOST_TRIES; struck++) {
            tool += lack(tool, angle, spring);
        }
        return tool;
    }

    public int tries(int angle, int spring) throws IllegalArgumentException {
        if (!isAngle(angle, spring)) {
            throw new IllegalArgumentException("a number is out of range");
        }
        int tool = angle;
        int struck = 1;
        while (struck < MOST_TRIES && lack(tool, angle, spring) != 0) {
            tool += lack(tool, angle, spring);
            struck++;
        }
        return struck;
    }

    private static boolean isCup(int diameter, int height) {
        return isWithin(diameter, 1, MOST_CUP) && isWithin(height, 0, MOST_CUP);
    }

    private static boolean isAngle(int angle, int spring) {
        return isWithin(angle, 1, MOST_ANGLE) && isWithin(spring, 0, MOST_SPRING);
    }

    private static int discFor(int diameter, int height) {
        int square = diameter * diameter + 4 * diameter * height;
        int wide = diameter;
        while (wide < WIDEST_DISC && wide * wide < square) {
            wide++;
        }
        return wide;
    }

    private static int narrowed(int wide, int made, boolean isAnnealed) {
        int share = LATER_DRAW;
        if (made == 0) {
            share = FIRST_DRAW;
        } else if (made == 1 && isAnnealed) {
            share = ANNEALED_DRAW;
        }
        return Math.min((wide * share + 99) / 100, wide - 1);
    }

    private static int lack(int tool, int wanted, int spring) {
        return wanted - (tool - tool * spring / 1000);
    }

    // ---- dies and the press

    public int die(int part, boolean isPair)
            throws IndexOutOfBoundsException, UnsupportedOperationException, IllegalStateException {
        Part made = partAt(part);
        if (made.shape.count() == 0) {
            throw new UnsupportedOperationException("the shape is empty");
        }
        if (dieCount >= DIES) {
            throw new IllegalStateException("there are 8 dies");
        }
        dies[dieCount] = new Die(made, made.shape.strip(isPair));
        made.hasDie = true;
        return dieCount++;
    }

    public int work(int die, int force, int degree, int place)
            throws IndexOutOfBoundsException, IllegalArgumentException, IllegalStateException {
        Works works = dieAt(die).works;
        if (!isWithin(force, 1, MOST_FORCE) || !isWithin(degree, FIRST_DEGREE, BOTTOM)
                || !isWithin(place, -FARTHEST_PLACE, FARTHEST_PLACE)) {
            throw new IllegalArgumentException("a number is out of range");
        }
        if (works.count >= WORKS) {
            throw new IllegalStateException("the die has 8 works");
        }
        works.add(force, degree, place);
        return works.count - 1;
    }

    public int behind(int die, int later, int earlier)
            throws IndexOutOfBoundsException, UnsupportedOperationException {
        Works works = worksWith(die, later, earlier);
        if (later == earlier || works.isBehind(earlier, later)) {
            throw new UnsupportedOperationException("a work can't be behind itself");
        }
        works.putBehind(later, earlier);
        return Integer.bitCount(works.ahead[later]);
    }

    public boolean apart(int die, int one, int other)
            throws IndexOutOfBoundsException, UnsupportedOperationException {
        Works works = worksWith(die, one, other);
        if (one == other) {
            throw new UnsupportedOperationException("a work can't be apart from itself");
        }
        return works.putApart(one, other);
    }

    public int stations(int die) throws IndexOutOfBoundsException {
        Works works = dieAt(die).works;
        works.settle();
        return works.fewest;
    }

    public int stationOf(int die, int work) throws IndexOutOfBoundsException {
        Works works = worksWith(die, work, work);
        works.settle();
        return works.station[work];
    }

    public int press(int force) throws IllegalArgumentException {
        if (!isWithin(force, LEAST_PRESS, MOST_PRESS)) {
            throw new IllegalArgumentException("the force is out of range");
        }
        int before = pressForce;
        pressForce = force;
        return before;
    }

    public int bears(int degree) throws IllegalArgumentException {
        if (!isDegree(degree)) {
            throw new IllegalArgumentException("the degree is out of range");
        }
        return borneAt(degree);
    }

    public int overloads(int die) throws IndexOutOfBoundsException {
        return overloadOf(dieAt(die));
    }

    public boolean fingers(int die, int from, int to) throws IndexOutOfBoundsException, IllegalArgumentException {
        dieAt(die);
        if (!isDegree(from) || !isDegree(to)) {
            throw new IllegalArgumentException("a degree is out of range");
        }
        int last = to < from ? to + TURN : to;
        for (int degree = from; degree <= last; degree++) {
            if (heightAt(degree % TURN) <= FINGER_HEIGHT) {
                return false;
            }
        }
        return true;
    }

    public int sensor(int die, int degree) throws IndexOutOfBoundsException, IllegalArgumentException {
        Die watched = dieAt(die);
        if (!isDegree(degree)) {
            throw new IllegalArgumentException("the degree is out of range");
        }
        int before = watched.sensor;
        watched.sensor = degree;
        return before;
    }

    public int clearance(int die, int clearance) throws IndexOutOfBoundsException, IllegalArgumentException {
        Die set = dieAt(die);
        if (!isWithin(clearance, 1, MOST_CLEARANCE)) {
            throw new IllegalArgumentException("the clearance is out of range");
        }
        set.clearance = clearance;
        return set.edge();
    }

    public int regrind(int die) throws IndexOutOfBoundsException, UnsupportedOperationException {
        Die ground = dieAt(die);
        if (ground.isWornOut()) {
            throw new UnsupportedOperationException("the punches are worn out");
        }
        ground.grind();
        return ground.punch;
    }

    public int shims(int die) throws IndexOutOfBoundsException {
        return dieAt(die).shimmed;
    }

    public int burr(int die) throws IndexOutOfBoundsException {
        return dieAt(die).edge();
    }

    public int misfeed(int die, int stroke) throws IndexOutOfBoundsException, IllegalArgumentException {
        Die fed = dieAt(die);
        if (!isWithin(stroke, fed.made, LAST_MISFEED) || fed.isTold(stroke)) {
            throw new IllegalArgumentException("the stroke is out of range, or was told");
        }
        fed.tell(stroke);
        return fed.misfeedsToCome;
    }

    private Die dieAt(int number) {
        if (number < 0 || number >= dies.length || dies[number] == null) {
            throw new IndexOutOfBoundsException("there is no such die");
        }
        return dies[number];
    }

    private Works worksWith(int die, int one, int other) {
        Works works = dieAt(die).works;
        if (!isWithin(one, 0, works.count - 1) || !isWithin(other, 0, works.count - 1)) {
            throw new IndexOutOfBoundsException("there is no such work");
        }
        return works;
    }

    private static int heightAt(int degree) {
        return Math.abs(degree - BOTTOM);
    }

    private int borneAt(int degree) {
        int height = heightAt(degree);
        return height <= FULL_FORCE_HEIGHT ? pressForce : pressForce * FULL_FORCE_HEIGHT / height;
    }

    private int overloadOf(Die die) {
        for (int degree = 0; degree < TURN; degree++) {
            if (!die.works.suits(degree, borneAt(degree))) {
                return degree;
            }
        }
        return -1;
    }

    private boolean suitsPress(Die die) {
        return overloadOf(die) < 0;
    }

    // ---- running and calls

    public int change(int die) throws IndexOutOfBoundsException, UnsupportedOperationException {
        Die next = dieAt(die);
        if (!suitsPress(next)) {
            throw new UnsupportedOperationException("the die does not suit the press");
        }
        if (next == dieIn) {
            return 0;
        }
        int minutes = dieIn == null ? CHANGE_FROM_NONE : CHANGE_FROM_OLD;
        dieIn = next;
        letPass(minutes);
        return minutes;
    }

    public int run(int coil, int strokes) throws IndexOutOfBoundsException, IllegalArgumentException,
            IllegalStateException, UnsupportedOperationException {
        Coil fed = coilAt(coil);
        if (!isWithin(strokes, 1, MOST_STROKES)) {
            throw new IllegalArgumentException("the strokes are out of range");
        }
        if (dieIn == null || dieIn.isWornOut() || !suitsPress(dieIn)) {
            throw new IllegalStateException("no die is ready");
        }
        if (!fed.suits(dieIn)) {
            throw new UnsupportedOperationException("the coil does not go with the part");
        }
        int goodBefore = metal.goodParts;
        int made = strikeAll(fed, dieIn, strokes);
        letPass((made + STROKES_A_MINUTE - 1) / STROKES_A_MINUTE);
        return metal.goodParts - goodBefore;
    }

    public char ended() {
        return lastEnd;
    }

    public int strokes(int die) throws IndexOutOfBoundsException {
        return dieAt(die).made;
    }

    public int stock(int part, int revision) throws IndexOutOfBoundsException {
        Part stored = partAt(part);
        if (revision < 0 || revision > stored.revision || revision >= stored.stored.length) {
            throw new IndexOutOfBoundsException("there is no such revision");
        }
        return stored.stored[revision];
    }

    public int call(int part, int count, int minute)
            throws IndexOutOfBoundsException, IllegalArgumentException, IllegalStateException {
        Part called = partAt(part);
        if (!isWithin(count, 1, MOST_CALLED) || minute <= this.minute) {
            throw new IllegalArgumentException("a number is out of range");
        }
        if (calls.size() >= CALLS) {
            throw new IllegalStateException("40 calls are to come");
        }
        calls.add(new Call(called, count, minute));
        return calls.size();
    }

    public int pass(int minutes) throws IllegalArgumentException {
        if (!isWithin(minutes, 1, MOST_MINUTES)) {
            throw new IllegalArgumentException("the minutes are out of range");
        }
        letPass(minutes);
        return minute;
    }

    public int delivered(int part) throws IndexOutOfBoundsException {
        return partAt(part).deliveredCount;
    }

    public int missed(int part) throws IndexOutOfBoundsException {
        return partAt(part).missedCount;
    }

    public int racks(int part) throws IndexOutOfBoundsException {
        return partAt(part).racksAt(minute);
    }

    /** Strikes until the run ends, and returns how many strokes were made. */
    private int strikeAll(Coil coil, Die die, int strokes) {
        int made = 0;
        lastEnd = 'd';
        while (made < strokes && lastEnd == 'd') {
            if (coil.lengthLeft() < die.feed()) {
                lastEnd = 'c';
                return made;
            }
            lastEnd = strike(coil, die);
            made++;
        }
        return made;
    }

    /** Makes one stroke, and returns how it ends the run, 'd' if it does not. */
    private char strike(Coil coil, Die die) {
        boolean isBurred = die.edge() > die.part.limit;
        boolean isMisfed = die.takeMisfeed();
        boolean isSeen = isMisfed && isWithin(die.sensor, SENSOR_FROM, SENSOR_TO);
        boolean isScrap = isBurred || isMisfed || die.isSpoilt || coil.lengths[0] < die.feed();
        int thickness = coil.thicknesses[0];
        long rest = coil.cut(die.feed());
        if (!isScrap) {
            rest -= keepGood(die, thickness);
        }
        metal.scrap[coil.alloy] += rest;
        die.isSpoilt = isMisfed && !isSeen;
        die.made++;
        die.wear++;
        if (isSeen) {
            return 'm';
        }
        return isBurred ? 'b' : 'd';
    }

    /** Puts the good parts of a stroke into stock, and returns their weight. */
    private long keepGood(Die die, int thickness) {
        int count = die.strip.shapes;
        long weight = die.part.weigh(thickness) * count;
        die.madeGood++;
        die.part.store(count);
        metal.good[die.part.alloy] += weight;
        metal.goodParts += count;
        return weight;
    }

    private void letPass(int minutes) {
        int until = minute + minutes;
        for (int answered = 0; answered < CALLS; answered++) {
            int next = nextCall();
            if (next < 0 || calls.get(next).minute > until) {
                break;
            }
            Call call = calls.remove(next);
            call.part.answer(call.count, call.minute);
        }
        minute = until;
    }

    /** Where the call stands that comes first, -1 if there is none; of one minute, the one made first. */
    private int nextCall() {
        int next = -1;
        for (int i = 0; i < calls.size(); i++) {
            if (next < 0 || calls.get(i).minute < calls.get(next).minute) {
                next = i;
            }
        }
        return next;
    }

    // ---- scrap and sums

    public long scrap(int alloy) throws IllegalArgumentException {
        if (!isAlloy(alloy)) {
            throw new IllegalArgumentException("there is no such alloy");
        }
        return metal.scrap[alloy] / MILLIGRAM;
    }

    public int price(int alloy, int cents) throws IllegalArgumentException {
        if (!isAlloy(alloy) || !isWithin(cents, 0, MOST_PRICE)) {
            throw new IllegalArgumentException("a number is out of range");
        }
        int before = metal.prices[alloy];
        metal.prices[alloy] = cents;
        return before;
    }

    public long sell(int alloy) throws IllegalArgumentException {
        if (!isAlloy(alloy)) {
            throw new IllegalArgumentException("there is no such alloy");
        }
        long kilograms = metal.scrap[alloy] / KILOGRAM;
        metal.scrap[alloy] -= kilograms * KILOGRAM;
        metal.sold[alloy] += kilograms * KILOGRAM;
        return kilograms * metal.prices[alloy];
    }

    public float goodShare() throws ArithmeticException {
        int made = 0;
        int good = 0;
        for (Die die : dies) {
            if (die != null) {
                made += die.made;
                good += die.madeGood;
            }
        }
        if (made == 0) {
            throw new ArithmeticException("no stroke was made");
        }
        return (float) good / (float) made;
    }

    public double meanWeight() throws ArithmeticException {
        if (metal.goodParts == 0) {
            throw new ArithmeticException("there are no good parts");
        }
        return (double) (metal.allGood() / MILLIGRAM) / (double) metal.goodParts;
    }

    public boolean isSound() {
        for (int alloy = 0; alloy < ALLOYS; alloy++) {
            if (metal.bought[alloy] != metal.gone(alloy) + coiled(alloy)) {
                return false;
            }
        }
        for (Die die : dies) {
            if (die != null && !die.works.isAsTold()) {
                return false;
            }
        }
        return true;
    }

    private long coiled(int alloy) {
        long sum = 0;
        for (Coil coil : coils) {
            if (coil != null && coil.alloy == alloy) {
                sum += coil.weigh();
            }
        }
        return sum;
    }

    private static boolean isWithin(int number, int least, int most) {
        return number >= least && number <= most;
    }

    private static boolean isAlloy(int number) {
        return isWithin(number, 0, ALLOYS - 1);
    }

    private static boolean isThickness(int number) {
        return isWithin(number, LEAST_THICKNESS, MOST_THICKNESS);
    }

    private static boolean isDegree(int number) {
        return isWithin(number, 0, TURN - 1);
    }

    /** Metal by alloys, in ten thousandths of a milligram, and what its scrap brings. */
    private static final class Metal {
        final long[] bought = new long[ALLOYS];
        final long[] good = new long[ALLOYS];
        final long[] scrap = new long[ALLOYS];
        final long[] sold = new long[ALLOYS];
        final int[] prices = {FIRST_PRICE, FIRST_PRICE, FIRST_PRICE, FIRST_PRICE};
        int goodParts;

        long gone(int alloy) {
            return good[alloy] + scrap[alloy] + sold[alloy];
        }

        long allGood() {
            long sum = 0;
            for (long weight : good) {
                sum += weight;
            }
            return sum;
        }
    }

    /**
     * A coil: its stretches from the foremost one on, behind them lengths of 0. All coils have 12 stretches
     * at most, as each is bought with one, so that a row of 12 has room for what is welded.
     */
    private static final class Coil {
        final int alloy;
        final int width;
        final int[] lengths = new int[COILS];
        final int[] thicknesses = new int[COILS];

        Coil(int alloy, int thickness, int width, int length) {
            this.alloy = alloy;
            this.width = width;
            thicknesses[0] = thickness;
            lengths[0] = length;
        }

        int lengthLeft() {
            int sum = 0;
            for (int length : lengths) {
                sum += length;
            }
            return sum;
        }

        long weigh() {
            long sum = 0;
            for (int i = 0; i < COILS; i++) {
                sum += weightOf(lengths[i], thicknesses[i]);
            }
            return sum;
        }

        boolean goesTogether(Coil back) {
            int last = stretches() - 1;
            return last >= 0 && back.lengths[0] > 0 && alloy == back.alloy && width == back.width
                    && isAlike(thicknesses[last], back.thicknesses[0]);
        }

        void append(Coil back) {
            int end = stretches();
            for (int i = 0; end + i < COILS; i++) {
                lengths[end + i] = back.lengths[i];
                thicknesses[end + i] = back.thicknesses[i];
            }
            Arrays.fill(back.lengths, 0);
        }

        boolean suits(Die die) {
            return lengths[0] > 0 && alloy == die.part.alloy && isAlike(thicknesses[0], die.part.thickness)
                    && width >= CELL * die.strip.height;
        }

        /** Cuts so much off the front, and returns its weight. */
        long cut(int length) {
            long weight = 0;
            int rest = length;
            for (int i = 0; i < COILS && rest > 0; i++) {
                int piece = Math.min(rest, lengths[0]);
                weight += weightOf(piece, thicknesses[0]);
                rest -= piece;
                lengths[0] -= piece;
                if (lengths[0] == 0) {
                    dropFront();
                }
            }
            return weight;
        }

        private void dropFront() {
            System.arraycopy(lengths, 1, lengths, 0, COILS - 1);
            System.arraycopy(thicknesses, 1, thicknesses, 0, COILS - 1);
            lengths[COILS - 1] = 0;
        }

        private int stretches() {
            int count = 0;
            while (count < COILS && lengths[count] > 0) {
                count++;
            }
            return count;
        }

        private long weightOf(int length, int thickness) {
            return (long) width * length * thickness * WEIGHTS[alloy];
        }

        private static boolean isAlike(int one, int other) {
            return Math.abs(one - other) <= THICKNESS_PLAY;
        }
    }

    /** How many shapes lie on one pitch of a strip, and how high the strip is. */
    private static final class Strip {
        final int shapes;
        int pitch;
        int height;

        Strip(int shapes) {
            this.shapes = shapes;
        }

        void lay(int columns, int rows) {
            pitch = columns;
            height = rows + STRIP_EDGES;
        }

        boolean isWorseThan(int columns, int rows) {
            int product = columns * (rows + STRIP_EDGES);
            return pitch == 0 || product < pitch * height || product == pitch * height && columns < pitch;
        }
    }

    /** Cells on the board, a row of it in the bits of a number. */
    private static final class Shape {
        private final int[] cells = new int[BOARD];
        private final Strip alone = new Strip(1);
        private final Strip pair = new Strip(2);
        private boolean isLaid;

        void fill(int x, int y, int columns, int rows) {
            int box = ((1 << columns) - 1) << x;
            for (int row = 0; row < BOARD; row++) {
                if (row >= y && row < y + rows) {
                    cells[row] |= box;
                }
            }
            isLaid = false;
        }

        int count() {
            int count = 0;
            for (int row : cells) {
                count += Integer.bitCount(row);
            }
            return count;
        }

        Strip strip(boolean isPair) {
            if (!isLaid) {
                lay();
                isLaid = true;
            }
            return isPair ? pair : alone;
        }

        private void lay() {
            int own = meetings(0, false);
            alone.lay(leastPitch(own, 0, 0), lastRow() - firstRow() + 1);
            pair.pitch = 0;
            // Moves with the same product and pitch have the same height: which of them is taken never shows.
            for (int rows = -FARTHEST_MOVE; rows <= FARTHEST_MOVE; rows++) {
                int turned = meetings(rows, true);
                int high = pairRows(rows);
                for (int columns = -FARTHEST_MOVE; columns <= FARTHEST_MOVE; columns++) {
                    int pitch = leastPitch(own, turned, columns);
                    if (pitch > 0 && pair.isWorseThan(pitch, high)) {
                        pair.lay(pitch, high);
                    }
                }
            }
        }

        private int pairRows(int moved) {
            int first = Math.min(firstRow(), BOARD - 1 - lastRow() + moved);
            int last = Math.max(lastRow(), BOARD - 1 - firstRow() + moved);
            return last - first + 1;
        }

        private int firstRow() {
            int row = 0;
            while (row < BOARD - 1 && cells[row] == 0) {
                row++;
            }
            return row;
        }

        private int lastRow() {
            int row = BOARD - 1;
            while (row > 0 && cells[row] == 0) {
                row--;
            }
            return row;
        }

        /**
         * The columns, from -8 to 8 in the bits 0 to 16, by which the same shape, or the one turned by half,
         * can't be moved if it is moved by these rows, as it would not be clear of the first one.
         */
        private int meetings(int rows, boolean isTurned) {
            int columns = 0;
            for (int row = 0; row < BOARD; row++) {
                for (int near = row - 1; near <= row + 1; near++) {
                    columns |= overlaps(row, near - rows, isTurned);
                }
            }
            return columns | (columns << 1) | (columns >> 1);
        }

        /** The columns by which some cell of the other one's row comes to where one of this row is. */
        private int overlaps(int row, int other, boolean isTurned) {
            if (other < 0 || other >= BOARD) {
                return 0;
            }
            int otherCells = isTurned ? cells[BOARD - 1 - other] : cells[other];
            int columns = 0;
            for (int x = 0; x < BOARD; x++) {
                if (((otherCells >> x) & 1) != 0) {
                    columns |= cells[row] << (NEAR - (isTurned ? BOARD - 1 - x : x));
                }
            }
            return columns;
        }

        /** The least pitch at which all are clear, 0 if a shape is not clear of the turned one beside it. */
        private static int leastPitch(int own, int turned, int moved) {
            for (int pitch = 1; pitch <= WIDEST_PITCH; pitch++) {
                int foremost = Math.floorMod(moved + NEAR, pitch) - NEAR;
                if (isClear(own, pitch, pitch) && isClear(turned, foremost, pitch)) {
                    return pitch;
                }
            }
            return 0;
        }

        private static boolean isClear(int meetings, int first, int pitch) {
            for (int columns = first; columns <= NEAR; columns += pitch) {
                if (((meetings >> (columns + NEAR)) & 1) != 0) {
                    return false;
                }
            }
            return true;
        }
    }

    private static final class Part {
        final int alloy;
        final int thickness;
        final Shape shape = new Shape();
        /** Good parts by revisions; a call makes one revision at most. */
        final int[] stored = new int[LIFE + 1];
        /** The minute at which each rack is back; it is here from then on. */
        private final int[] racksBack = new int[RACKS];
        boolean hasDie;
        int revision;
        int limit = FIRST_LIMIT;
        int deliveredCount;
        int missedCount;

        Part(int alloy, int thickness) {
            this.alloy = alloy;
            this.thickness = thickness;
        }

        void renew(int newLimit) {
            limit = newLimit;
            if (revision < LIFE) {
                revision++;
            }
        }

        void store(int count) {
            stored[revision] += count;
        }

        long weigh(int stripThickness) {
            return (long) shape.count() * CELL * CELL * stripThickness * WEIGHTS[alloy];
        }

        int racksAt(int minute) {
            int here = 0;
            for (int back : racksBack) {
                if (back <= minute) {
                    here++;
                }
            }
            return here;
        }

        void answer(int count, int minute) {
            int ready = Math.min(stored[revision], RACK * racksAt(minute));
            int given = Math.min(count, ready);
            stored[revision] -= given;
            deliveredCount += given;
            missedCount += count - given;
            sendRacks((given + RACK - 1) / RACK, minute);
        }

        private void sendRacks(int count, int minute) {
            int toSend = count;
            for (int i = 0; i < RACKS && toSend > 0; i++) {
                if (racksBack[i] <= minute) {
                    racksBack[i] = minute + RACK_AWAY;
                    toSend--;
                }
            }
        }
    }

    private static final class Call {
        final Part part;
        final int count;
        final int minute;

        Call(Part part, int count, int minute) {
            this.part = part;
            this.count = count;
            this.minute = minute;
        }
    }

    private static final class Profile {
        private final int[] lengths = new int[BENDS + 1];
        private final boolean[] areLeft = new boolean[BENDS];
        private final int[] xs = new int[(BENDS + 1) * LONGEST_STRETCH + 1];
        private final int[] ys = new int[(BENDS + 1) * LONGEST_STRETCH + 1];
        final int[] order = new int[BENDS];
        int bends;
        private boolean isSearched;
        private boolean isFound;
        /** A bit for each set of bends that leads to no good order. */
        private long hopeless;

        boolean isBegun() {
            return lengths[0] > 0;
        }

        void begin(int length) {
            lengths[0] = length;
            bends = 0;
            isSearched = false;
        }

        void add(boolean isLeft, int length) {
            if (bends < BENDS) {
                areLeft[bends] = isLeft;
                bends++;
                lengths[bends] = length;
                isSearched = false;
            }
        }

        int stretched() {
            int sum = 0;
            for (int i = 0; i <= bends; i++) {
                sum += lengths[i];
            }
            return sum;
        }

        boolean hasOrder() {
            if (!isSearched) {
                hopeless = 0;
                isFound = search(this, 0, 0);
                isSearched = true;
            }
            return isFound;
        }

        /** Tries the bends by rising numbers, so that the first order found is the first one by numbers. */
        private static boolean search(Profile profile, int made, int place) {
            if (place >= profile.bends) {
                return true;
            }
            for (int bend = 0; bend < profile.bends; bend++) {
                int next = made | (1 << bend);
                if (next != made && profile.isHopeful(next)) {
                    profile.order[place] = bend;
                    if (search(profile, next, place + 1)) {
                        return true;
                    }
                    profile.hopeless |= 1L << next;
                }
            }
            return false;
        }

        private boolean isHopeful(int made) {
            if (((hopeless >> made) & 1) == 0 && meetsItself(made)) {
                hopeless |= 1L << made;
            }
            return ((hopeless >> made) & 1) == 0;
        }

        /** Whether two points are at one place if the bends of this set are made. */
        private boolean meetsItself(int made) {
            int points = 1;
            int stepX = 1;
            int stepY = 0;
            for (int stretch = 0; stretch <= bends; stretch++) {
                if (stretch > 0 && ((made >> (stretch - 1)) & 1) != 0) {
                    int oldX = stepX;
                    stepX = areLeft[stretch - 1] ? -stepY : stepY;
                    stepY = areLeft[stretch - 1] ? oldX : -oldX;
                }
                for (int i = 0; i < lengths[stretch]; i++) {
                    xs[points] = xs[points - 1] + stepX;
                    ys[points] = ys[points - 1] + stepY;
                    if (wasThere(points)) {
                        return true;
                    }
                    points++;
                }
            }
            return false;
        }

        private boolean wasThere(int point) {
            for (int i = 0; i < point; i++) {
                if (xs[i] == xs[point] && ys[i] == ys[point]) {
                    return true;
                }
            }
            return false;
        }
    }

    /** The works of a die, and the stations that they are shared out over. */
    private static final class Works {
        int count;
        private final int[] forces = new int[WORKS];
        private final int[] degrees = new int[WORKS];
        private final int[] places = new int[WORKS];
        /** A bit for each work that this one is behind. */
        final int[] ahead = new int[WORKS];
        /** A bit for each work that this one is apart from. */
        private final int[] apartFrom = new int[WORKS];
        final int[] station = new int[WORKS];
        int fewest;
        /** The forces of each station as they are being shared out, and a bit for each of its works. */
        private final int[] loads = new int[WORKS];
        private final int[] held = new int[WORKS];
        private boolean isSettled = true;

        void add(int force, int degree, int place) {
            if (count < WORKS) {
                forces[count] = force;
                degrees[count] = degree;
                places[count] = place;
                count++;
                isSettled = false;
            }
        }

        /** Whether a work is behind another one, perhaps over others. */
        boolean isBehind(int work, int other) {
            int reached = ahead[work];
            for (int round = 0; round < count; round++) {
                for (int over = 0; over < count; over++) {
                    if (hasBit(reached, over)) {
                        reached |= ahead[over];
                    }
                }
            }
            return hasBit(reached, other);
        }

        void putBehind(int later, int earlier) {
            ahead[later] |= 1 << earlier;
            isSettled = false;
        }

        boolean putApart(int one, int other) {
            if (hasBit(apartFrom[one], other)) {
                return false;
            }
            apartFrom[one] |= 1 << other;
            apartFrom[other] |= 1 << one;
            isSettled = false;
            return true;
        }

        /** Takes the fewest stations that do: one for each work always does. */
        void settle() {
            for (int stations = 0; stations <= count && !isSettled; stations++) {
                fewest = stations;
                Arrays.fill(loads, 0);
                Arrays.fill(held, 0);
                isSettled = share(this, 0);
            }
        }

        /** Tries the stations of the works by rising numbers, the earlier ones first. */
        private static boolean share(Works works, int work) {
            if (work >= works.count) {
                return true;
            }
            int last = works.lastFor(work);
            for (int at = works.firstFor(work); at <= last; at++) {
                if (works.hasRoom(work, at)) {
                    works.put(work, at);
                    if (share(works, work + 1)) {
                        return true;
                    }
                    works.take(work, at);
                }
            }
            return false;
        }

        /** The first station behind those of the works with lower numbers that this one is behind. */
        private int firstFor(int work) {
            int first = 0;
            for (int other = 0; other < work; other++) {
                if (hasBit(ahead[work], other)) {
                    first = Math.max(first, station[other] + 1);
                }
            }
            return first;
        }

        private int lastFor(int work) {
            int last = fewest - 1;
            for (int other = 0; other < work; other++) {
                if (hasBit(ahead[other], work)) {
                    last = Math.min(last, station[other] - 1);
                }
            }
            return last;
        }

        private boolean hasRoom(int work, int at) {
            return loads[at] + forces[work] <= STATION_FORCE && (held[at] & apartFrom[work]) == 0;
        }

        private void put(int work, int at) {
            station[work] = at;
            loads[at] += forces[work];
            held[at] |= 1 << work;
        }

        private void take(int work, int at) {
            loads[at] -= forces[work];
            held[at] &= ~(1 << work);
        }

        /** No fewer would do once they are settled, as all fewer ones were tried ahead of these. */
        boolean isAsTold() {
            settle();
            for (int work = 0; work < count; work++) {
                if (!isWithin(station[work], 0, fewest - 1) || forceAt(station[work]) > STATION_FORCE) {
                    return false;
                }
                for (int other = 0; other < count; other++) {
                    if (clashes(work, other)) {
                        return false;
                    }
                }
            }
            return isSettled;
        }

        private int forceAt(int at) {
            int force = 0;
            for (int work = 0; work < count; work++) {
                if (station[work] == at) {
                    force += forces[work];
                }
            }
            return force;
        }

        private boolean clashes(int work, int other) {
            return hasBit(ahead[work], other) && station[work] <= station[other]
                    || hasBit(apartFrom[work], other) && station[work] == station[other];
        }

        boolean suits(int degree, int borne) {
            int force = 0;
            int tilt = 0;
            for (int work = 0; work < count; work++) {
                if (isWithin(degree, degrees[work], BOTTOM)) {
                    force += forces[work];
                    tilt += forces[work] * places[work];
                }
            }
            return force <= borne && Math.abs(tilt) <= MOST_TILT * force;
        }

        private static boolean hasBit(int bits, int bit) {
            return ((bits >> bit) & 1) != 0;
        }
    }

    private static final class Die {
        final Part part;
        final Strip strip;
        final Works works = new Works();
        /** The strokes of the misfeeds to come, rising, so that the next one is the first. */
        private final int[] misfeeds = new int[LIFE];
        int misfeedsToCome;
        int sensor = FIRST_SENSOR;
        int clearance = BEST_CLEARANCE;
        int wear;
        int punch = PUNCH;
        int shimmed;
        int made;
        int madeGood;
        /** Whether a misfeed that was not seen makes the next stroke scrap, too. */
        boolean isSpoilt;

        Die(Part part, Strip strip) {
            this.part = part;
            this.strip = strip;
        }

        int feed() {
            return CELL * strip.pitch;
        }

        int edge() {
            return wear / WEAR_FOR_BURR + Math.abs(clearance - BEST_CLEARANCE);
        }

        boolean isWornOut() {
            return punch < SHORTEST_PUNCH;
        }

        void grind() {
            punch -= GRIND;
            shimmed += GRIND;
            wear = 0;
        }

        boolean isTold(int stroke) {
            for (int i = 0; i < misfeedsToCome; i++) {
                if (misfeeds[i] == stroke) {
                    return true;
                }
            }
            return false;
        }

        void tell(int stroke) {
            if (misfeedsToCome >= LIFE) {
                return;
            }
            int at = misfeedsToCome;
            while (at > 0 && misfeeds[at - 1] > stroke) {
                misfeeds[at] = misfeeds[at - 1];
                at--;
            }
            misfeeds[at] = stroke;
            misfeedsToCome++;
        }

        /** Whether the next stroke has a misfeed, which is to come no more then. */
        boolean takeMisfeed() {
            if (misfeedsToCome == 0 || misfeeds[0] != made) {
                return false;
            }
            misfeedsToCome--;
            System.arraycopy(misfeeds, 1, misfeeds, 0, misfeedsToCome);
            return true;
        }
    }
}
