import java.util.ArrayList;
import java.util.List;
import java.util.Random;
import java.util.TreeSet;

/**
 * Random runs of calls against a plain model: coils kept millimetre by millimetre, minutes passed one by one.
 * Promises 1 to 5, 20, 26 to 51.
 */
final class RandomRunsTest {
    private static final int[] FACTORS = {785, 270, 896, 850};
    /** What calls beyond these answer is free. */
    private static final int LIFE = 512;

    private static final class Coil {
        int alloy;
        int width;
        List<Integer> metal = new ArrayList<>();
        /** How many millimetres are behind each weld. */
        TreeSet<Integer> welds = new TreeSet<>();
    }

    private static final class Part {
        int alloy;
        int thickness;
        int cells;
        int limit = 20;
        List<Integer> stock = new ArrayList<>(List.of(0));
        List<Integer> racksOut = new ArrayList<>();
        int delivered;
        int missed;
    }

    private static final class Die {
        int part;
        int parts;
        int pitch;
        int height;
        int force;
        int sensor = 90;
        int clearance = 8;
        int wear;
        int ground;
        int strokes;
        int good;
        int spoilt = -1;
        TreeSet<Integer> misfeeds = new TreeSet<>();
    }

    private final StrikeStrip shop = new StrikeStrip();
    private final Random random;
    private final List<Coil> coils = new ArrayList<>();
    private final List<Part> parts = new ArrayList<>();
    private final List<Die> dies = new ArrayList<>();
    private final List<int[]> calls = new ArrayList<>();
    private final long[] scrap = new long[4];
    private final int[] prices = {100, 100, 100, 100};
    private long goodWeight;
    private int goodParts;
    private int press = 200;
    private int minute;
    private int in = -1;
    private char ended = '-';
    private int callsMade;

    private RandomRunsTest(long seed) {
        random = new Random(seed);
    }

    public static void main(String[] args) {
        for (int seed = 0; seed < 1200; seed++) {
            RandomRunsTest test = new RandomRunsTest(seed);
            // A step makes 3 calls at most, or looks at all.
            while (test.callsMade + 2 * test.looks() + 3 < LIFE) {
                test.step();
            }
            test.compare();
        }
        Check.end();
    }

    /** How many calls it takes to look at all. */
    private int looks() {
        int revisions = 0;
        for (Part part : parts) {
            revisions += part.stock.size();
        }
        return 2 * coils.size() + revisions + 3 * parts.size() + 4 * dies.size() + 8;
    }

    private int any(int least, int most) {
        return least + random.nextInt(most - least + 1);
    }

    private static boolean has(List<?> list, int number) {
        return number >= 0 && number < list.size();
    }

    private void step() {
        callsMade++;
        if (any(0, 200) == 0) {
            compare();
        } else {
            act(any(0, 23));
        }
    }

    private void act(int kind) {
        switch (kind) {
            case 0, 1 -> coil();
            case 2, 3 -> weld();
            case 4 -> part();
            case 5 -> die();
            case 6 -> work();
            case 7 -> press();
            case 8 -> sensor();
            case 9 -> clearance();
            case 10 -> regrind();
            case 11, 12 -> misfeed();
            case 13 -> change();
            case 14, 15, 16, 17 -> run();
            case 18, 19 -> call();
            case 20 -> pass();
            case 21 -> revise();
            case 22 -> price();
            default -> sell();
        }
    }

    private void refused(String what, Class<? extends RuntimeException> due, java.util.function.LongSupplier call) {
        Check.refuses(what, due, call);
    }

    private void coil() {
        int alloy = any(0, 12) == 0 ? 4 : any(0, 1);
        int thickness = 95 + any(0, 10);
        int width = 10 + 15 * any(1, 3);
        int length = any(0, 1) == 0 ? any(1, 12) : any(1, 900);
        if (alloy > 3) {
            refused("coil", IllegalArgumentException.class, () -> shop.coil(alloy, thickness, width, length));
        } else if (coils.size() == 12) {
            refused("coil", IllegalStateException.class, () -> shop.coil(alloy, thickness, width, length));
        } else {
            Check.is("coil", shop.coil(alloy, thickness, width, length), coils.size());
            Coil coil = new Coil();
            coil.alloy = alloy;
            coil.width = width;
            for (int i = 0; i < length; i++) {
                coil.metal.add(thickness);
            }
            coils.add(coil);
        }
    }

    private void weld() {
        int one = any(-1, coils.size());
        int other = any(-1, coils.size());
        if (!has(coils, one) || !has(coils, other)) {
            refused("weld", IndexOutOfBoundsException.class, () -> shop.weld(one, other));
            return;
        }
        Coil front = coils.get(one);
        Coil back = coils.get(other);
        if (one == other || front.metal.isEmpty() || back.metal.isEmpty() || front.alloy != back.alloy
                || front.width != back.width
                || Math.abs(front.metal.get(front.metal.size() - 1) - back.metal.get(0)) > 5) {
            refused("weld", UnsupportedOperationException.class, () -> shop.weld(one, other));
            return;
        }
        Check.is("weld", shop.weld(one, other), front.metal.size() + back.metal.size());
        TreeSet<Integer> welds = new TreeSet<>(back.welds);
        welds.add(back.metal.size());
        for (int behind : front.welds) {
            welds.add(behind + back.metal.size());
        }
        front.welds = welds;
        front.metal.addAll(back.metal);
        back.metal.clear();
        back.welds.clear();
    }

    private void part() {
        if (parts.size() == 8) {
            refused("part", IllegalStateException.class, () -> shop.part(0, 100));
            return;
        }
        callsMade++;
        Part part = new Part();
        part.alloy = any(0, 1);
        part.thickness = any(95, 105);
        Check.is("part", shop.part(part.alloy, part.thickness), parts.size());
        int columns = any(1, 8);
        int rows = any(1, 5);
        part.cells = columns * rows;
        Check.is("draw", shop.draw(parts.size(), any(0, 8 - columns), any(0, 8 - rows), columns, rows), part.cells);
        parts.add(part);
    }

    private void die() {
        int number = any(0, parts.size());
        boolean isPair = random.nextBoolean();
        if (!has(parts, number)) {
            refused("die", IndexOutOfBoundsException.class, () -> shop.die(number, isPair));
        } else if (dies.size() == 8) {
            refused("die", IllegalStateException.class, () -> shop.die(number, isPair));
        } else {
            callsMade += 2;
            Check.is("die", shop.die(number, isPair), dies.size());
            Die die = new Die();
            die.part = number;
            die.parts = isPair ? 2 : 1;
            die.pitch = shop.pitch(number, isPair);
            die.height = shop.height(number, isPair);
            dies.add(die);
        }
    }

    /** All works press at the bottom alone, where the press bears its force. */
    private void work() {
        int number = any(0, dies.size());
        int force = any(0, 60);
        if (!has(dies, number)) {
            refused("work", IndexOutOfBoundsException.class, () -> shop.work(number, force, 180, 0));
        } else if (force == 0) {
            refused("work", IllegalArgumentException.class, () -> shop.work(number, force, 180, 0));
        } else if (dies.get(number).force <= 150) {
            shop.work(number, force, 180, any(-40, 40));
            dies.get(number).force += force;
        }
    }

    private void press() {
        int force = any(3, 14) * 30;
        Check.is("press", shop.press(force), press);
        press = force;
    }

    private int anyDie() {
        return any(0, 9) == 0 ? any(-1, 8) : any(0, Math.max(0, dies.size() - 1));
    }

    private void sensor() {
        int number = anyDie();
        int degree = any(0, 1) == 0 ? any(28, 32) : any(148, 152);
        if (!has(dies, number)) {
            refused("sensor", IndexOutOfBoundsException.class, () -> shop.sensor(number, degree));
        } else {
            Check.is("sensor", shop.sensor(number, degree), dies.get(number).sensor);
            dies.get(number).sensor = degree;
        }
    }

    private static int burr(Die die) {
        return (int) Math.floor(die.wear / 50.0) + (die.clearance < 8 ? 8 - die.clearance : die.clearance - 8);
    }

    private void clearance() {
        int number = anyDie();
        int clearance = any(0, 31);
        if (!has(dies, number)) {
            refused("clearance", IndexOutOfBoundsException.class, () -> shop.clearance(number, clearance));
        } else if (clearance < 1 || clearance > 30) {
            refused("clearance", IllegalArgumentException.class, () -> shop.clearance(number, clearance));
        } else {
            dies.get(number).clearance = clearance;
            Check.is("clearance", shop.clearance(number, clearance), burr(dies.get(number)));
        }
    }

    private void regrind() {
        int number = anyDie();
        if (!has(dies, number)) {
            refused("regrind", IndexOutOfBoundsException.class, () -> shop.regrind(number));
        } else if (dies.get(number).ground > 8) {
            refused("regrind", UnsupportedOperationException.class, () -> shop.regrind(number));
        } else {
            dies.get(number).ground++;
            dies.get(number).wear = 0;
            Check.is("regrind", shop.regrind(number), 5000 - 25 * dies.get(number).ground);
        }
    }

    private void misfeed() {
        int number = anyDie();
        if (!has(dies, number)) {
            refused("misfeed", IndexOutOfBoundsException.class, () -> shop.misfeed(number, 0));
            return;
        }
        Die die = dies.get(number);
        int stroke = any(0, 20) == 0 ? any(99999, 100000) : die.strokes + any(-2, 40);
        if (stroke < die.strokes || stroke > 99999 || die.misfeeds.contains(stroke)) {
            refused("misfeed", IllegalArgumentException.class, () -> shop.misfeed(number, stroke));
        } else {
            die.misfeeds.add(stroke);
            Check.is("misfeed", shop.misfeed(number, stroke), die.misfeeds.size());
        }
    }

    private void change() {
        int number = anyDie();
        if (!has(dies, number)) {
            refused("change", IndexOutOfBoundsException.class, () -> shop.change(number));
        } else if (dies.get(number).force > press) {
            refused("change", UnsupportedOperationException.class, () -> shop.change(number));
        } else {
            int minutes = number == in ? 0 : in < 0 ? 28 : 31;
            Check.is("change", shop.change(number), minutes);
            in = number;
            passed(minutes);
        }
    }

    private void run() {
        int number = any(0, coils.size());
        int strokes = any(0, 30) == 0 ? any(600, 601) : any(0, 70);
        if (!has(coils, number)) {
            refused("run", IndexOutOfBoundsException.class, () -> shop.run(number, strokes));
        } else if (strokes < 1 || strokes > 600) {
            refused("run", IllegalArgumentException.class, () -> shop.run(number, strokes));
        } else if (in < 0 || dies.get(in).ground > 8 || dies.get(in).force > press) {
            refused("run", IllegalStateException.class, () -> shop.run(number, strokes));
        } else if (!suits(coils.get(number), dies.get(in))) {
            refused("run", UnsupportedOperationException.class, () -> shop.run(number, strokes));
        } else {
            callsMade++;
            int before = goodParts;
            int madeBefore = dies.get(in).strokes;
            ended = 'd';
            for (int i = 0; i < strokes && ended == 'd'; i++) {
                ended = stroke(coils.get(number), dies.get(in));
            }
            int made = dies.get(in).strokes - madeBefore;
            Check.is("run", shop.run(number, strokes), goodParts - before);
            Check.is("ended", shop.ended(), ended);
            passed(made / 30 + (made % 30 > 0 ? 1 : 0));
        }
    }

    private boolean suits(Coil coil, Die die) {
        Part part = parts.get(die.part);
        return !coil.metal.isEmpty() && coil.alloy == part.alloy
                && Math.abs(coil.metal.get(0) - part.thickness) <= 5 && coil.width >= 5 * die.height;
    }

    private char stroke(Coil coil, Die die) {
        Part part = parts.get(die.part);
        int feed = 5 * die.pitch;
        int behind = coil.metal.size() - feed;
        if (behind < 0) {
            return 'c';
        }
        boolean isBurred = burr(die) > part.limit;
        boolean isMisfed = die.misfeeds.remove(die.strokes);
        boolean isSeen = isMisfed && die.sensor >= 30 && die.sensor <= 150;
        boolean isScrap = isBurred || isMisfed || die.spoilt == die.strokes
                || !coil.welds.subSet(behind, false, coil.metal.size(), false).isEmpty();
        if (isMisfed && !isSeen) {
            die.spoilt = die.strokes + 1;
        }
        long weight = 0;
        int thickness = coil.metal.get(0);
        for (int i = 0; i < feed; i++) {
            weight += (long) coil.metal.get(i) * coil.width * FACTORS[coil.alloy];
        }
        coil.metal.subList(0, feed).clear();
        if (!isScrap) {
            long good = 25L * part.cells * die.parts * thickness * FACTORS[coil.alloy];
            weight -= good;
            goodWeight += good;
            goodParts += die.parts;
            part.stock.set(part.stock.size() - 1, part.stock.get(part.stock.size() - 1) + die.parts);
            die.good++;
        }
        scrap[coil.alloy] += weight;
        die.strokes++;
        die.wear++;
        return isSeen ? 'm' : isBurred ? 'b' : 'd';
    }

    private void call() {
        int number = any(0, parts.size());
        int count = any(0, 9) == 0 ? any(199, 201) : any(0, 40);
        int at = minute + any(0, 90);
        if (!has(parts, number)) {
            refused("call", IndexOutOfBoundsException.class, () -> shop.call(number, count, at));
        } else if (count < 1 || count > 200 || at <= minute) {
            refused("call", IllegalArgumentException.class, () -> shop.call(number, count, at));
        } else if (calls.size() == 40) {
            refused("call", IllegalStateException.class, () -> shop.call(number, count, at));
        } else {
            calls.add(new int[] {number, count, at});
            Check.is("call", shop.call(number, count, at), calls.size());
        }
    }

    private void pass() {
        int minutes = any(1, 60);
        Check.is("pass", shop.pass(minutes), minute + minutes);
        passed(minutes);
    }

    private void passed(int minutes) {
        for (int i = 0; i < minutes; i++) {
            minute++;
            for (Part part : parts) {
                part.racksOut.removeIf(back -> back == minute);
            }
            for (int[] call : new ArrayList<>(calls)) {
                if (call[2] == minute) {
                    calls.remove(call);
                    answer(parts.get(call[0]), call[1]);
                }
            }
        }
    }

    private void answer(Part part, int count) {
        int last = part.stock.size() - 1;
        int inRack = 10;
        for (int i = 0; i < count; i++) {
            boolean needsRack = inRack == 10;
            if (part.stock.get(last) == 0 || needsRack && part.racksOut.size() == 20) {
                part.missed++;
                continue;
            }
            if (needsRack) {
                part.racksOut.add(minute + 60);
                inRack = 0;
            }
            inRack++;
            part.stock.set(last, part.stock.get(last) - 1);
            part.delivered++;
        }
    }

    private void revise() {
        int number = any(0, parts.size());
        int limit = any(0, 3) == 0 ? any(-1, 100) : any(10, 30);
        if (!has(parts, number)) {
            refused("revise", IndexOutOfBoundsException.class, () -> shop.revise(number, limit));
        } else if (limit < 0 || limit > 99) {
            refused("revise", IllegalArgumentException.class, () -> shop.revise(number, limit));
        } else if (any(0, 2) == 0) {
            Check.is("revise", shop.revise(number, limit), parts.get(number).stock.size());
            parts.get(number).limit = limit;
            parts.get(number).stock.add(0);
        }
    }

    private void price() {
        int alloy = any(0, 3);
        int cents = any(0, 9999);
        Check.is("price", shop.price(alloy, cents), prices[alloy]);
        prices[alloy] = cents;
    }

    private void sell() {
        int alloy = any(0, 3);
        long kilograms = scrap[alloy] / 10000000000L;
        Check.is("sell", shop.sell(alloy), kilograms * prices[alloy]);
        scrap[alloy] -= kilograms * 10000000000L;
    }

    private void compare() {
        callsMade += looks();
        for (int i = 0; i < coils.size(); i++) {
            Coil coil = coils.get(i);
            long weight = 0;
            for (int thickness : coil.metal) {
                weight += (long) thickness * coil.width * FACTORS[coil.alloy];
            }
            Check.is("left", shop.left(i), coil.metal.size());
            Check.is("weight", shop.weight(i), weight / 10000);
        }
        for (int i = 0; i < parts.size(); i++) {
            Part part = parts.get(i);
            for (int revision = 0; revision < part.stock.size(); revision++) {
                Check.is("stock", shop.stock(i, revision), part.stock.get(revision));
            }
            Check.is("delivered", shop.delivered(i), part.delivered);
            Check.is("missed", shop.missed(i), part.missed);
            Check.is("racks", shop.racks(i), 20 - part.racksOut.size());
        }
        int strokes = 0;
        int good = 0;
        for (int i = 0; i < dies.size(); i++) {
            Die die = dies.get(i);
            strokes += die.strokes;
            good += die.good;
            Check.is("strokes", shop.strokes(i), die.strokes);
            Check.is("burr", shop.burr(i), burr(die));
            Check.is("shims", shop.shims(i), 25 * die.ground);
            Check.is("overloads", shop.overloads(i), die.force > press ? 180 : -1);
        }
        for (int alloy = 0; alloy < 4; alloy++) {
            Check.is("scrap", shop.scrap(alloy), scrap[alloy] / 10000);
        }
        if (strokes > 0) {
            Check.isReal("goodShare", shop.goodShare(), (float) good / (float) strokes);
        }
        if (goodParts > 0) {
            Check.isReal("meanWeight", shop.meanWeight(), (double) (goodWeight / 10000) / (double) goodParts);
        }
        Check.is("ended", shop.ended(), ended);
        Check.isTrue("isSound", shop.isSound());
    }
}
