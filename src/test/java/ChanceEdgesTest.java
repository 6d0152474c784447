import java.math.BigInteger;

/** The edges that the document names of gauges, luck, summers, slots: section 3, promises 19 to 28, and 512 calls. */
public final class ChanceEdgesTest {
    private static final int OUTSIDE = GutterGardens.OUTSIDE;
    private static final int STATE = GutterGardens.STATE;
    private static final int FULL = GutterGardens.FULL;
    private static final int NONE = GutterGardens.NONE;
    /** Behind three quarters with rain 2 there is 5, 4, 4, 3 more in the butt by the sets 0, 1, 2, 3. */
    private static final String DOWN = "GR0106R1301W03";
    private static final long[] SEEDS = {0, 1, -1, 12345, Long.MIN_VALUE, Long.MAX_VALUE, -6364136223846793005L};

    public static void main(String[] args) {
        gaugeQuarters();
        asWhenAsked();
        gaugeWater();
        setThatStays();
        sixGauges();
        fitAll();
        damInAll();
        damInSome();
        luckQuarters();
        luckTenths();
        luckDams();
        luckEnough();
        summerQuarters();
        seedAtFirst();
        seedWraps();
        upperBits();
        gotInIt();
        nothingButTheSeed();
        twoSlots();
        slotsKeepAll();
        rowIsEmpty();
        gaugeAnswers();
        ungauge();
        fits();
        noneFits();
        luckIsTold();
        seed();
        summerAnswers();
        keep();
        again();
        noneKept();
        count();
        for512Calls();
        Due.end();
    }

    // ---- section 3: gauges

    private static void gaugeQuarters() {
        Due.sentence("3", "GAUGES: behind t QUARTERS (1 to 6) from now on");
        GutterGardens x = Due.on("GR0199W09");
        Due.is("0", x.gauge(0, 0, 0), OUTSIDE);
        for (int t = 1; t <= 6; t++) {
            Due.is("t " + t, x.gauge(t, 0, t), t);
            asks(x, "all of them", 1, 0, 0);
        }
        Due.is("7", x.gauge(7, 0, 7), OUTSIDE);
    }

    private static void asWhenAsked() {
        Due.sentence("3", "(WATER, THE BUTT as they are now when asked)");
        GutterGardens x = Due.on("GR0199W03");
        x.gauge(2, 0, 1);
        asks(x, "three water", 0, NONE, NONE);
        x.quarter(0);
        asks(x, "two water, one in the butt", 0, NONE, NONE);
        x.quarter(0);
        asks(x, "one water, two in the butt", 1, 0, 0);
        x.quarter(0);
        asks(x, "no water", 0, NONE, NONE);
        x.undo();
        asks(x, "one water", 1, 0, 0);
        x.pail(0, 1);
        asks(x, "a pail", 0, NONE, NONE);
    }

    private static void gaugeWater() {
        Due.sentence("3", "with RAIN r each there is w more in THE BUTT than now (0 to 999),");
        GutterGardens x = Due.on("GR0199W03");
        Due.is("-1", x.gauge(1, 0, -1), OUTSIDE);
        Due.is("1000", x.gauge(1, 0, 1000), OUTSIDE);
        Due.is("999", x.gauge(1, 0, 999), 1);
        asks(x, "so much there is not", 0, NONE, NONE);
        x.ungauge();
        Due.is("0", x.gauge(1, 0, 0), 1);
        asks(x, "none comes over a dam", 1, 1, 1);
        x.ungauge();
        GutterGardens y = Due.on("GR0999");
        y.quarter(9);
        y.gauge(6, 9, 54);
        asks(y, "nine each, and nine that do not count", 1, 0, 0);
        y.ungauge();
        y.gauge(6, 9, 45);
        asks(y, "all but the brim", 1, 1, 1);
    }

    private static void setThatStays() {
        Due.sentence("3", "by a set of DAMS that stays:");
        GutterGardens x = Due.on("GR0199W03");
        x.gauge(1, 0, 1);
        x.gauge(2, 0, 1);
        asks(x, "none, then one", 0, NONE, NONE);
        x.ungauge();
        x.gauge(1, 0, 0);
        asks(x, "there is no dam now", 1, 1, 1);
        x.dam(0, true);
        asks(x, "there is one now", 1, 1, 1);
    }

    private static void sixGauges() {
        Due.sentence("3", "6 of them at most.");
        GutterGardens x = new GutterGardens();
        for (int i = 1; i <= 6; i++) Due.is("gauge " + i, x.gauge(1, 0, 0), i);
        Due.is("a seventh", x.gauge(1, 0, 1), FULL);
        Due.is("six", x.count(8), 6);
        Due.is("the seventh is not asked", x.fits(), 1);
        x.ungauge();
        for (int i = 1; i <= 5; i++) x.gauge(1, 0, 0);
        x.gauge(1, 0, 1);
        Due.is("the sixth is", x.fits(), 0);
    }

    private static void fitAll() {
        Due.sentence("3", "WHO DAMMED: how many sets fit all GAUGES;");
        int[] sets = {0, 0, 0, 1, 2, 1, 0};
        for (int w = 0; w <= 6; w++) {
            GutterGardens x = Due.on(DOWN);
            x.gauge(3, 2, w);
            Due.is("fit " + w, x.fits(), sets[w]);
            x.gauge(3, 2, 4);
            Due.is("fit " + w + " and 4", x.fits(), w == 4 ? 2 : 0);
        }
        GutterGardens y = Due.on(DOWN);
        y.gauge(1, 2, 1);
        Due.is("roof 1 has no dam", y.fits(), 2);
        y.gauge(3, 2, 4);
        asks(y, "but roof 0", 1, 1, 1);
        Due.is("no gauges: all", Due.on(DOWN).fits(), 4);
    }

    private static void damInAll() {
        Due.sentence("3", "ROOFS with a DAM in all of them;");
        GutterGardens x = Due.on("GR1107R0204R0303W05W16");
        x.gauge(3, 1, 5);
        asks(x, "the sets 4, 5, 6", 3, 4, 7);
        GutterGardens y = Due.on(DOWN);
        y.gauge(3, 2, 3);
        asks(y, "set 3", 1, 3, 3);
    }

    private static void damInSome() {
        Due.sentence("3", "in some of them (bits).");
        GutterGardens x = Due.on(DOWN);
        x.gauge(3, 2, 4);
        asks(x, "the sets 1, 2", 2, 0, 3);
        GutterGardens y = Due.on("GR1109R1208R0303W08W14W22");
        y.gauge(3, 0, 2);
        asks(y, "the sets 2, 3, 4", 3, 0, 7);
        y.ungauge();
        y.gauge(3, 0, 5);
        asks(y, "set 0", 1, 0, 0);
    }

    private static void asks(GutterGardens x, String when, int fits, int all, int some) {
        Due.is(when + ": fits", x.fits(), fits);
        Due.is(when + ": in all", x.dammed(false), all);
        Due.is(when + ": in some", x.dammed(true), some);
    }

    // ---- section 3: luck

    private static void luckIs(GutterGardens x, int n, int rain, int tenths, long above, long below) {
        String call = "luck for " + n + " with " + rain + " by " + tenths;
        Due.is(call + ", above", x.luck(0, n, rain, tenths, true), above);
        Due.is(call + ", below", x.luck(0, n, rain, tenths, false), below);
    }

    private static void luckQuarters() {
        Due.sentence("3", "LUCK for n QUARTERS (0 to 8):");
        GutterGardens x = Due.on("GR1911");
        Due.is("-1", x.luck(0, -1, 1, 9, true), OUTSIDE);
        luckIs(x, 0, 1, 9, 0, 1);
        long below = 1;
        for (int n = 1; n <= 8; n++) {
            below *= 10;
            luckIs(x, n, 1, 9, below - 1, below);
        }
        Due.is("9", x.luck(0, 9, 1, 9, true), OUTSIDE);
    }

    private static void luckTenths() {
        Due.sentence("3", "in each RAIN is r by x tenths (0 to 10), else 0;");
        GutterGardens x = Due.on("GR1911");
        Due.is("-1", x.luck(0, 1, 1, -1, true), OUTSIDE);
        long[] above = {0, 1, 1, 3, 2, 1, 3, 7, 4, 9, 1};
        long[] below = {1, 10, 5, 10, 5, 2, 5, 10, 5, 10, 1};
        for (int tenths = 0; tenths <= 10; tenths++) {
            luckIs(x, 1, 9, tenths, above[tenths], below[tenths]);
            luckIs(x, 1, 0, tenths, 0, 1);
            luckIs(Due.on("GR1911W01"), 1, 0, tenths, 1, 1);
        }
        Due.is("11", x.luck(0, 1, 1, 11, true), OUTSIDE);
        luckIs(Due.on("GR1981"), 8, 1, 10, 1, 1);
        luckIs(Due.on("GR1981"), 8, 1, 1, 1, 100000000);
        luckIs(Due.on("GR1981"), 8, 1, 9, 43046721, 100000000);
        luckIs(Due.on("GR1991"), 8, 9, 10, 0, 1);
    }

    private static void luckDams() {
        Due.sentence("3", "DAMS as now:");
        GutterGardens x = Due.on("GR1929");
        luckIs(x, 2, 2, 5, 1, 4);
        x.dam(0, true);
        luckIs(x, 2, 2, 5, 1, 2);
        x.dam(0, false);
        luckIs(x, 2, 2, 5, 1, 4);
    }

    private static void luckEnough() {
        Due.sentence("3", "the chance that a ROOF has ENOUGH behind them.");
        GutterGardens x = Due.on("GR1919R1999");
        Due.is("roof 0: once wet", x.luck(0, 2, 2, 5, true), 3);
        Due.is("of four", x.luck(0, 2, 2, 5, false), 4);
        Due.is("roof 1 drinks eight at most, and wants nine", x.luck(1, 8, 9, 5, true), 0);
        x.quarter(1);
        luckIs(x, 0, 0, 0, 1, 1);
        luckIs(x, 8, 0, 0, 1, 1);
    }

    // ---- section 3: summers

    /** THE SEED behind m steps, wrapping, as a number without sign. */
    private static BigInteger stepped(long seed, int m) {
        BigInteger all = BigInteger.ONE.shiftLeft(64);
        BigInteger x = BigInteger.valueOf(seed).mod(all);
        for (int i = 0; i < m; i++) {
            x = x.multiply(BigInteger.valueOf(6364136223846793005L)).add(BigInteger.valueOf(1442695040888963407L)).mod(all);
        }
        return x;
    }

    private static int rainAt(long seed, int m) {
        return stepped(seed, m).shiftRight(33).mod(BigInteger.TEN).intValue();
    }

    private static void summerQuarters() {
        Due.sentence("3", "A SUMMER by THE SEED: m QUARTERS (1 to 40), DAMS as now;");
        GutterGardens x = Due.on("GR9999");
        Due.is("0", x.summer(0, 0), OUTSIDE);
        for (int m = 1; m <= 40; m++) {
            x.seed(m);
            int due = 0;
            for (int i = 1; i <= m; i++) due += rainAt(m, i);
            Due.is("summer of " + m, x.summer(0, m), due);
        }
        Due.is("41", x.summer(0, 41), OUTSIDE);
        GutterGardens y = Due.on("GR1999W09");
        y.seed(-5);
        Due.is("rain 0, 5: none of the nine is left", y.summer(0, 2), 2);
        GutterGardens z = Due.on("GR2999W09");
        long dry = seedBehindWhichItIsDry();
        z.seed(dry);
        Due.is("rain 0, 0, without a dam", z.summer(0, 2), 2);
        z.dam(0, true);
        z.seed(dry);
        Due.is("rain 0, 0, with one", z.summer(0, 2), 4);
    }

    private static long seedBehindWhichItIsDry() {
        for (long seed = 0; seed < 10000; seed++) {
            if (rainAt(seed, 1) == 0 && rainAt(seed, 2) == 0) return seed;
        }
        return 0;
    }

    private static void seedAtFirst() {
        Due.sentence("3", "for each x (THE SEED, a long; 0 at first)");
        Due.is("at first", new GutterGardens().seed(9), 0);
        GutterGardens x = Due.on("GR9999");
        Due.is("by the seed 0", x.summer(0, 1), rainAt(0, 1));
        Due.is("then", x.seed(0), 1442695040888963407L);
    }

    private static void seedWraps() {
        Due.sentence("3", "becomes x times 6364136223846793005 and 1442695040888963407 (64 bits, wrapping),");
        for (long seed : SEEDS) {
            for (int m = 1; m <= 40; m += 13) {
                GutterGardens x = Due.on("GR9999");
                x.seed(seed);
                x.summer(0, m);
                Due.is("seed " + seed + " behind " + m, x.seed(0), stepped(seed, m).longValue());
            }
        }
    }

    private static void upperBits() {
        Due.sentence("3", "and RAIN is, of its upper 31 bits, by 10 what is left:");
        boolean[] rained = new boolean[10];
        for (long seed = -40; seed <= 40; seed++) {
            GutterGardens x = Due.on("GR9999");
            x.seed(seed);
            int rain = x.summer(0, 1);
            Due.is("rain by " + seed, rain, rainAt(seed, 1));
            if (rain >= 0 && rain <= 9) rained[rain] = true;
        }
        for (int rain = 0; rain <= 9; rain++) Due.that("there is rain " + rain, rained[rain]);
    }

    private static void gotInIt() {
        Due.sentence("3", "what a ROOF has GOT in it.");
        GutterGardens x = Due.on("GR9999");
        x.quarter(9);
        Due.is("what it got ahead of it does not count", x.summer(0, 1), rainAt(0, 1));
        x.seed(0);
        Due.is("nor what it got in the last one", x.summer(0, 1), rainAt(0, 1));
        Due.is("no soil", Due.on("GR0999").summer(0, 40), 0);
    }

    private static void nothingButTheSeed() {
        Due.sentence("3", "(Nothing changes but THE SEED.)");
        Twins.unchanged(Twins::full, "summer, and the seed put back", x -> {
            x.summer(5, 40);
            x.seed(77);
            return 0;
        });
        Twins.unchanged(Twins::full, "luck", x -> x.luck(5, 8, 9, 5, true));
        Twins.unchanged(Twins::full, "fits", x -> x.fits());
        Twins.unchanged(Twins::bare, "dammed", x -> x.dammed(true));
        GutterGardens x = Due.on("GR9999");
        x.summer(0, 2);
        Due.is("the seed", x.seed(0), stepped(0, 2).longValue());
    }

    // ---- section 3: slots

    private static void twoSlots() {
        Due.sentence("3", "SLOTS 0 to 1");
        GutterGardens x = Due.on("GR0199");
        Due.is("keep -1", x.keep(-1), GutterGardens.UNKNOWN);
        x.quarter(1);
        Due.is("keep 0", x.keep(0), 1);
        x.quarter(1);
        Due.is("keep 1", x.keep(1), 2);
        Due.is("keep 2", x.keep(2), GutterGardens.UNKNOWN);
        x.quarter(1);
        Due.is("again 0", x.again(0), 1);
        Due.is("again 1", x.again(1), 2);
        Due.is("again -1", x.again(-1), GutterGardens.UNKNOWN);
        Due.is("again 2", x.again(2), GutterGardens.UNKNOWN);
        Due.is("two", x.count(2), 2);
    }

    private static void slotsKeepAll() {
        Due.sentence("3", "keep WATER, SOAP, what was GOT, SPOILT, THE BUTT, how many QUARTERS, DAMS");
        GutterGardens x = Due.on("GR2199R1199W09W18");
        x.soap(0, 9);
        x.soap(1, 8);
        x.quarter(0);
        x.dam(1, true);
        x.keep(0);
        int[][] roofs = {{6, 6, 2, 2, 0, 0}, {7, 7, 1, 1, 0, 1}};
        int[] counts = {17, 2, 1, 1, 1, 0, 2, 0, 0, 13};
        for (int round = 0; round < 2; round++) {
            x.quarter(9);
            x.soap(1, 1);
            x.pail(0, 1);
            x.dam(0, true);
            x.dam(1, false);
            x.again(0);
            for (int what = 0; what <= 9; what++) Due.is("count " + what, x.count(what), counts[what]);
            for (int roof = 0; roof < 2; roof++) {
                for (int what = 0; what <= 5; what++) {
                    Due.is("roof " + roof + " " + what, x.roof(roof, what), roofs[roof][what]);
                }
            }
        }
    }

    private static void rowIsEmpty() {
        Due.sentence("3", "(THE ROW of ACTS is empty when one goes on).");
        GutterGardens x = Due.on("GR0199");
        for (int i = 0; i < 13; i++) x.quarter(1);
        x.keep(0);
        Due.is("keeping leaves it", x.count(7), 12);
        x.again(0);
        Due.is("acts", x.count(7), 0);
        Due.is("undo", x.undo(), STATE);
        for (int i = 1; i <= 13; i++) {
            x.quarter(1);
            Due.is("a row again", x.count(7), Math.min(i, 12));
        }
        for (int i = 11; i >= 0; i--) Due.is("undo", x.undo(), i);
        Due.is("to the second one behind what was kept", x.count(2), 14);
    }

    // ---- promises 19 to 28

    private static void gaugeAnswers() {
        Due.sentence("P19", "A GAUGE: how many there are.");
        GutterGardens x = Due.on("GR0199");
        Due.is("one", x.gauge(6, 9, 999), 1);
        Due.is("the same again is one more", x.gauge(6, 9, 999), 2);
        Due.is("with no rain, no water", x.gauge(1, 0, 0), 3);
        Due.is("gauges", x.count(8), 3);
    }

    private static void ungauge() {
        Due.sentence("P20", "There are no GAUGES: how many there were.");
        for (int gauges = 0; gauges <= 6; gauges++) {
            GutterGardens x = Due.on("GR0199");
            for (int i = 0; i < gauges; i++) x.gauge(1, 0, 999);
            Due.is("there were", x.ungauge(), gauges);
            Due.is("there are", x.count(8), 0);
            Due.is("all sets fit", x.fits(), 2);
            Due.is("there were none", x.ungauge(), 0);
            Due.is("one again", x.gauge(1, 0, 0), 1);
        }
    }

    private static void fits() {
        Due.sentence("P21", "WHO DAMMED: how many sets fit.");
        String six = "GR0101R0101R0101R0101R0101R0101";
        for (int roofs = 0; roofs <= 6; roofs++) {
            GutterGardens x = Due.on(six.substring(0, 1 + 5 * roofs));
            Due.is("all sets of " + roofs, x.fits(), 1 << roofs);
            x.gauge(1, 0, 1);
            Due.is("none of " + roofs, x.fits(), 0);
        }
    }

    private static void noneFits() {
        Due.sentence("P22", "ROOFS with a DAM in all of them (some = false), in some of them, as bits; NONE: none fits.");
        GutterGardens x = Due.on("GR1107R0204R0303W05W16");
        asks(x, "all fit", 8, 0, 7);
        x.gauge(3, 1, 5);
        asks(x, "three fit", 3, 4, 7);
        x.gauge(1, 0, 999);
        asks(x, "none fits", 0, NONE, NONE);
        asks(new GutterGardens(), "no roofs: the empty set fits", 1, 0, 0);
    }

    private static void luckIsTold() {
        Due.sentence("P23", "LUCK.");
        GutterGardens x = Due.on("GR1921");
        luckIs(x, 3, 5, 3, 27, 125);
        luckIs(x, 2, 5, 10, 1, 1);
        luckIs(x, 1, 5, 10, 0, 1);
        Due.is("asked below first", Due.on("GR1921").luck(0, 3, 5, 3, false), 125);
    }

    private static void seed() {
        Due.sentence("P24", "THE SEED is v: what it was.");
        GutterGardens x = new GutterGardens();
        long was = 0;
        for (long v : SEEDS) {
            Due.is("seed " + v, x.seed(v), was);
            was = v;
        }
        Due.is("the same again", x.seed(was), was);
    }

    private static void summerAnswers() {
        Due.sentence("P25", "A SUMMER.");
        GutterGardens x = Due.on("GR9999R3999");
        Due.is("roof 0", x.summer(0, 3), 18);
        x.seed(0);
        Due.is("roof 1 drinks three each", x.summer(1, 3), 9);
        Due.is("one goes on from the seed of the last", x.seed(0), stepped(0, 3).longValue());
    }

    private static void keep() {
        Due.sentence("P26", "They are kept: how many QUARTERS there were.");
        GutterGardens x = new GutterGardens();
        Due.is("none, of no roofs", x.keep(0), 0);
        x.quarter(0);
        Due.is("one", x.keep(1), 1);
        x.quarter(0);
        Due.is("two, over the first", x.keep(0), 2);
        x.undo();
        Due.is("one again", x.keep(1), 1);
        x.undo();
        Due.is("what is kept stays when acts are undone", x.again(0), 2);
    }

    private static void again() {
        Due.sentence("P27", "They are as they were kept: how many QUARTERS there were.");
        GutterGardens x = Due.on("GR0199W05");
        x.keep(0);
        x.quarter(0);
        x.quarter(0);
        Due.is("none", x.again(0), 0);
        Due.is("water", x.roof(0, 0), 5);
        x.quarter(9);
        Due.is("what is kept stays kept", x.again(0), 0);
        Due.is("water, too", x.roof(0, 0), 5);
        x.dam(0, true);
        x.again(0);
        Due.is("a dam is gone again", x.count(6), 0);
    }

    private static void noneKept() {
        Due.sentence("P27", "STATE: none were kept.");
        GutterGardens x = Due.on("GR0199W05");
        Due.is("in 0", x.again(0), STATE);
        Due.is("in 1", x.again(1), STATE);
        x.keep(1);
        Due.is("in 0, still", x.again(0), STATE);
        Due.is("in 1 there are", x.again(1), 0);
        x.street();
        Due.is("on another street", x.again(1), STATE);
    }

    private static void count() {
        Due.sentence("P28", "0 bytes of THE TEXT, 1 ROOFS, 2 QUARTERS, 3 WATER in THE BUTT, 4 SOAP in it, 5 ROOFS that have "
            + "ENOUGH (bits), 6 DAMS (bits), 7 ACTS in the row, 8 GAUGES, 9 WATER on all ROOFS.");
        GutterGardens x = Due.on("GR2199R1219R0109W09W18");
        x.write(1, 0);
        x.soap(1, 8);
        x.quarter(0);
        x.quarter(0);
        x.quarter(1);
        x.dam(2, true);
        x.gauge(1, 1, 1);
        x.gauge(1, 1, 1);
        int[] counts = {23, 3, 3, 2, 1, 6, 4, 4, 2, 9};
        for (int what = 0; what <= 9; what++) Due.is("count " + what, x.count(what), counts[what]);
    }

    private static void for512Calls() {
        Due.sentence("use", "An object is used for at most 512 calls after it has been made; what later calls answer is free.");
        GutterGardens x = new GutterGardens();
        x.write(6, 0x475230393939L);
        x.street();
        for (int i = 1; i <= 508; i++) Due.is("quarter " + i, x.quarter(9), 9);
        Due.is("call 511", x.count(3), 9 * 508);
        Due.is("call 512", x.count(2), 508);
        for (int i = 0; i < 1000; i++) x.quarter(9);
        GutterGardens y = Due.on("GR1929R1929W03");
        for (int i = 0; i < 98; i++) {
            Due.is("plan, time and again", y.plan(3, 0), 1);
            Due.is("planAt", y.planAt(3, 0, 1), 2);
            Due.is("enough", y.enough(6, 0), 1);
            Due.is("luck", y.luck(0, 8, 1, 5, false), 128);
            Due.is("dammed", y.dammed(true), 3);
        }
    }
}
