import java.util.function.Supplier;

/** What can be read of a shop, as one text. */
final class Look {
    private Look() {
    }

    /** All that can be read without a change that lasts. */
    static String at(StrikeStrip shop) {
        StringBuilder text = new StringBuilder();
        for (int coil = 0; coil < 12 && append(text, "\ncoil ", coilText(shop, coil)); coil++) {
            continue;
        }
        for (int part = 0; part < 8 && append(text, "\npart ", partText(shop, part)); part++) {
            continue;
        }
        for (int die = 0; die < 8 && append(text, "\ndie ", dieText(shop, die)); die++) {
            continue;
        }
        text.append("\nprofile ").append(answer(() -> "" + shop.unfolded(0, 20)));
        for (int place = 0; place < 6; place++) {
            int at = place;
            text.append(' ').append(answer(() -> "" + shop.bendAt(at)));
        }
        for (int alloy = 0; alloy < 4; alloy++) {
            int price = shop.price(alloy, 0);
            shop.price(alloy, price);
            text.append("\nscrap ").append(shop.scrap(alloy)).append(" at ").append(price);
        }
        text.append("\npress ").append(shop.bears(180)).append(" ended ").append(shop.ended());
        text.append(" sound ").append(shop.isSound());
        text.append(' ').append(answer(() -> "" + shop.goodShare()));
        text.append(' ').append(answer(() -> "" + shop.meanWeight()));
        return text.toString();
    }

    /** What only further calls can tell; the shop is another one behind it. */
    static String beyond(StrikeStrip shop) {
        StringBuilder text = new StringBuilder();
        text.append("change ");
        for (int die = 0; die < 2; die++) {
            int at = die;
            text.append(answer(() -> "" + shop.change(at))).append(' ');
            text.append(answer(() -> "" + shop.misfeed(at, 99998))).append(' ');
        }
        for (int coil = 0; coil < 4; coil++) {
            int at = coil;
            for (int strokes = 1; strokes <= 2; strokes++) {
                int most = strokes;
                text.append("\nrun ").append(answer(() -> "" + shop.run(at, most))).append(shop.ended());
            }
        }
        text.append("\ndraws");
        for (int part : new int[] {1, 2, 6}) {
            text.append(' ').append(answer(() -> "" + shop.draw(part, 7, 7, 1, 1)));
        }
        text.append("\ncalls ").append(answer(() -> "" + shop.call(0, 7, 999999)));
        text.append("\nbends ").append(answer(() -> "" + shop.bend(true, 2)));
        text.append(' ').append(shop.profile(2));
        text.append("\nnumbers ").append(answer(() -> "" + shop.coil(0, 100, 40, 10)));
        text.append(' ').append(answer(() -> "" + shop.part(0, 100)));
        text.append(' ').append(answer(() -> "" + shop.die(0, false)));
        text.append(' ').append(answer(() -> "" + shop.work(0, 1, 180, 0)));
        text.append(' ').append(answer(() -> "" + shop.regrind(0)));
        text.append(' ').append(answer(() -> "" + shop.clearance(0, 8)));
        return text.append("\nminute ").append(shop.pass(1000)).append(at(shop)).toString();
    }

    private static boolean append(StringBuilder text, String what, String told) {
        text.append(what).append(told);
        return !told.startsWith("java");
    }

    private static String coilText(StrikeStrip shop, int coil) {
        return answer(() -> shop.left(coil) + " of " + shop.weight(coil));
    }

    private static String partText(StrikeStrip shop, int part) {
        StringBuilder text = new StringBuilder();
        text.append(answer(() -> shop.delivered(part) + " " + shop.missed(part) + " " + shop.racks(part)));
        if (text.indexOf("java") < 0) {
            text.append(" lies ").append(answer(() -> shop.pitch(part, false) + " " + shop.pitch(part, true) + " "
                    + shop.height(part, true) + " " + shop.used(part, true)));
            String stored = "";
            for (int revision = 0; revision < 512 && !stored.startsWith("java"); revision++) {
                int at = revision;
                stored = answer(() -> "" + shop.stock(part, at));
                text.append(" stock ").append(stored);
            }
        }
        return text.toString();
    }

    private static String dieText(StrikeStrip shop, int die) {
        StringBuilder text = new StringBuilder();
        text.append(answer(() -> shop.burr(die) + " " + shop.shims(die) + " " + shop.strokes(die)));
        if (text.indexOf("java") < 0) {
            int sensor = shop.sensor(die, 0);
            shop.sensor(die, sensor);
            text.append(' ').append(sensor).append(' ').append(shop.overloads(die)).append(" stations ");
            text.append(shop.stations(die)).append(" of");
            String station = "";
            for (int work = 0; work < 8 && !station.startsWith("java"); work++) {
                int at = work;
                station = answer(() -> "" + shop.stationOf(die, at));
                text.append(' ').append(station);
            }
        }
        return text.toString();
    }

    /** What a call answers, or the name of what it throws. */
    static String answer(Supplier<String> call) {
        try {
            return call.get();
        } catch (RuntimeException e) {
            return e.getClass().getName();
        }
    }
}
