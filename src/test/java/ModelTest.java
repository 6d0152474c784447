import java.util.Random;

/** Runs of 512 calls by chance (with fixed seeds), on the program and on the model: they answer alike. */
public final class ModelTest {
    private static final int RUNS = 250;
    private static final int CALLS = 512;

    private final Random chance;
    private final GutterGardens x = new GutterGardens();
    private final Model y = new Model();
    private final String run;
    private int roofs = 0;

    private ModelTest(int seed) {
        chance = new Random(seed);
        run = "run " + seed + ", call ";
    }

    public static void main(String[] args) {
        for (int seed = 0; seed < RUNS; seed++) new ModelTest(seed).go();
        Due.end();
    }

    private void go() {
        for (int i = 0; i < CALLS; i++) {
            int kind = i % 64 == 0 ? 0 : chance.nextInt(100);
            if (kind < 3) newStreet(i);
            else if (kind < 25) look(i);
            else if (kind < 60) act(i);
            else if (kind < 80) comes(i);
            else if (kind < 92) gaugesAndLuck(i);
            else slots(i);
        }
        all();
    }

    private void due(int i, String call, long got, long want) {
        Due.is(run + i + ": " + call, got, want);
    }

    /** Mostly within what is told, and now and then beside it. */
    private int number(int least, int most) {
        int kind = chance.nextInt(24);
        if (kind == 0) return least - 1;
        if (kind == 1) return most + 1;
        if (kind == 2) return chance.nextInt();
        return least + chance.nextInt(most - least + 1);
    }

    private int roof() {
        return chance.nextInt(16) == 0 ? number(0, 5) : chance.nextInt(Math.max(1, roofs));
    }

    private int rain() {
        return chance.nextInt(3) == 0 ? number(0, 9) : chance.nextInt(4);
    }

    private void newStreet(int i) {
        due(i, "wipe", x.wipe(), y.wipe());
        String text = streetText();
        if (chance.nextInt(4) == 0) text = spoil(text);
        for (int place = 0; place < text.length() && place < 40; place += 8) {
            String part = text.substring(place, Math.min(text.length(), place + 8));
            long v = chance.nextLong();
            for (char c : part.toCharArray()) v = v << 8 | c;
            due(i, "write", x.write(part.length(), v), y.write(part.length(), v));
        }
        due(i, "fault of " + text, x.fault(), y.fault());
        int streets = y.street();
        due(i, "street of " + text, x.street(), streets);
        if (streets >= 0) roofs = streets;
    }

    private String streetText() {
        StringBuilder text = new StringBuilder("G");
        int many = chance.nextInt(7);
        boolean[] watered = new boolean[6];
        for (int roof = 0; roof < many; roof++) {
            text.append('R').append(chance.nextInt(2) * chance.nextInt(4)).append(1 + chance.nextInt(9));
            text.append(chance.nextInt(10)).append(1 + chance.nextInt(9));
            int which = chance.nextInt(roof + 1);
            boolean fits = text.length() + 3 + 5 * (many - roof - 1) <= 40;
            if (chance.nextInt(3) > 0 && !watered[which] && fits) {
                watered[which] = true;
                text.append('W').append(which).append(1 + chance.nextInt(9));
            }
        }
        return text.toString();
    }

    private String spoil(String text) {
        String letters = "GRW0123456789X\u00e9\u0000";
        int place = chance.nextInt(text.length() + 1);
        char c = letters.charAt(chance.nextInt(letters.length()));
        String behind = chance.nextBoolean() ? text.substring(place) : text.substring(Math.min(text.length(), place + 1));
        return text.substring(0, place) + c + (chance.nextInt(4) == 0 ? "" : behind);
    }

    private void look(int i) {
        switch (chance.nextInt(4)) {
            case 0 -> {
                int n = number(1, 8);
                long v = chance.nextLong();
                due(i, "write", x.write(n, v), y.write(n, v));
            }
            case 1 -> due(i, "fault", x.fault(), y.fault());
            case 2 -> {
                int roof = roof(), what = number(0, 9);
                due(i, "roof " + roof + " " + what, x.roof(roof, what), y.roof(roof, what));
            }
            default -> {
                int what = number(0, 9);
                due(i, "count " + what, x.count(what), y.count(what));
            }
        }
    }

    private void act(int i) {
        int roof = roof(), n = number(1, 9), rain = rain();
        boolean is = chance.nextBoolean();
        switch (chance.nextInt(9)) {
            case 0, 1 -> due(i, "dam", x.dam(roof, is), y.dam(roof, is));
            case 2, 3, 4 -> due(i, "quarter " + rain, x.quarter(rain), y.quarter(rain));
            case 5 -> due(i, "pail " + roof + " " + n, x.pail(roof, n), y.pail(roof, n));
            case 6, 7 -> due(i, "soap " + roof + " " + n, x.soap(roof, n), y.soap(roof, n));
            default -> due(i, "undo", x.undo(), y.undo());
        }
    }

    private void comes(int i) {
        int roof = roof(), rain = rain(), n = number(0, 20), to6 = number(1, 6), to3 = number(1, 3), at = number(0, 2);
        boolean soap = chance.nextBoolean();
        String by = " " + to6 + " " + rain;
        switch (chance.nextInt(20)) {
            case 0 -> due(i, "plan " + to3 + " " + rain, x.plan(to3, rain), y.plan(to3, rain));
            case 1 -> due(i, "planAt " + to3 + " " + rain + " " + at, x.planAt(to3, rain, at), y.planAt(to3, rain, at));
            case 2, 3, 4, 5 -> due(i, "got", x.got(roof, n, rain), y.got(roof, n, rain));
            case 6, 7, 8 -> due(i, "butt", x.butt(n, rain, soap), y.butt(n, rain, soap));
            case 9, 10, 11 -> due(i, "dams" + by, x.dams(to6, rain), y.dams(to6, rain));
            case 12, 13, 14 -> due(i, "enough" + by, x.enough(to6, rain), y.enough(to6, rain));
            default -> due(i, "each" + by, x.each(to6, rain), y.each(to6, rain));
        }
    }

    private void gaugesAndLuck(int i) {
        int roof = roof(), t = number(1, 6), rain = rain(), n = number(0, 8), tenths = number(0, 10), m = number(1, 40);
        boolean upper = chance.nextBoolean();
        long v = chance.nextLong();
        switch (chance.nextInt(10)) {
            case 0, 1, 2 -> {
                int w = likelyGain(t, rain);
                due(i, "gauge " + t + " " + rain + " " + w, x.gauge(t, rain, w), y.gauge(t, rain, w));
            }
            case 3 -> due(i, "ungauge", x.ungauge(), y.ungauge());
            case 4 -> due(i, "fits", x.fits(), y.fits());
            case 5, 6 -> due(i, "dammed", x.dammed(upper), y.dammed(upper));
            case 7 -> due(i, "luck", x.luck(roof, n, rain, tenths, upper), y.luck(roof, n, rain, tenths, upper));
            case 8 -> due(i, "seed", x.seed(v), y.seed(v));
            default -> due(i, "summer", x.summer(roof, m), y.summer(roof, m));
        }
        due(i, "fits then", x.fits(), y.fits());
        due(i, "dammed then", x.dammed(upper), y.dammed(upper));
    }

    /** By chance alone next to no set would fit: what the dams of now would let down mostly fits some. */
    private int likelyGain(int t, int rain) {
        int then = y.butt(t, rain, false);
        return chance.nextInt(5) == 0 || then < 0 ? number(0, 999) : then - y.count(3);
    }

    private void slots(int i) {
        int slot = number(0, 1);
        if (chance.nextBoolean()) due(i, "keep " + slot, x.keep(slot), y.keep(slot));
        else due(i, "again " + slot, x.again(slot), y.again(slot));
    }

    private void all() {
        for (int what = -1; what <= 10; what++) {
            due(CALLS, "count " + what, x.count(what), y.count(what));
            for (int roof = -1; roof <= 6; roof++) {
                due(CALLS, "roof " + roof + " " + what, x.roof(roof, what), y.roof(roof, what));
            }
        }
    }
}
