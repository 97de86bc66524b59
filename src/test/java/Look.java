import java.util.NoSuchElementException;
import java.util.function.Supplier;

/** All of a shop that can be read without a change that lasts, as one text. */
final class Look {
    private Look() {
    }

    static String at(StrikeStrip shop) {
        StringBuilder text = new StringBuilder();
        for (int coil = 0; hasCoil(shop, coil); coil++) {
            text.append("\ncoil ").append(shop.left(coil)).append(' ').append(shop.weight(coil));
        }
        for (int part = 0; hasPart(shop, part); part++) {
            text.append("\npart ").append(part(shop, part));
        }
        for (int die = 0; hasDie(shop, die); die++) {
            text.append("\ndie ").append(die(shop, die));
        }
        text.append("\nprofile ").append(profile(shop));
        for (int alloy = 0; alloy < 4; alloy++) {
            int price = shop.price(alloy, 0);
            shop.price(alloy, price);
            text.append("\nscrap ").append(shop.scrap(alloy)).append(' ').append(price);
        }
        int press = shop.press(10);
        shop.press(press);
        text.append("\npress ").append(press).append(shop.ended()).append(shop.isSound());
        text.append(orNone(() -> "" + shop.goodShare())).append(orNone(() -> "" + shop.meanWeight()));
        return text.toString();
    }

    private static String part(StrikeStrip shop, int part) {
        StringBuilder text = new StringBuilder();
        text.append(orNone(() -> shop.pitch(part, false) + " " + shop.height(part, false) + " "
                + shop.used(part, false) + " " + shop.pitch(part, true) + " " + shop.height(part, true) + " "
                + shop.used(part, true)));
        for (int revision = 0; hasRevision(shop, part, revision); revision++) {
            text.append(" stock ").append(shop.stock(part, revision));
        }
        return text.append(' ').append(shop.delivered(part)).append(' ').append(shop.missed(part)).append(' ')
                .append(shop.racks(part)).toString();
    }

    private static String die(StrikeStrip shop, int die) {
        int sensor = shop.sensor(die, 0);
        shop.sensor(die, sensor);
        StringBuilder text = new StringBuilder();
        text.append(sensor).append(' ').append(shop.burr(die)).append(' ').append(shop.shims(die)).append(' ')
                .append(shop.strokes(die)).append(' ').append(shop.overloads(die)).append(' ')
                .append(shop.stations(die));
        for (int work = 0; hasWork(shop, die, work); work++) {
            text.append(' ').append(shop.stationOf(die, work));
        }
        return text.toString();
    }

    private static String profile(StrikeStrip shop) {
        StringBuilder text = new StringBuilder();
        text.append(orNone(() -> "" + shop.unfolded(0, 20)));
        for (int place = 0; place < 6; place++) {
            int at = place;
            text.append(orNone(() -> "," + shop.bendAt(at)));
        }
        return text.toString();
    }

    private static String orNone(Supplier<String> answer) {
        try {
            return answer.get();
        } catch (NoSuchElementException | IllegalStateException | ArithmeticException e) {
            return "none";
        } catch (IndexOutOfBoundsException e) {
            return "-";
        }
    }

    private static boolean has(Runnable call) {
        try {
            call.run();
            return true;
        } catch (IndexOutOfBoundsException e) {
            return false;
        }
    }

    private static boolean hasCoil(StrikeStrip shop, int coil) {
        return has(() -> shop.left(coil));
    }

    private static boolean hasPart(StrikeStrip shop, int part) {
        return has(() -> shop.racks(part));
    }

    private static boolean hasRevision(StrikeStrip shop, int part, int revision) {
        return has(() -> shop.stock(part, revision));
    }

    private static boolean hasDie(StrikeStrip shop, int die) {
        return has(() -> shop.shims(die));
    }

    private static boolean hasWork(StrikeStrip shop, int die, int work) {
        return has(() -> shop.stationOf(die, work));
    }
}
