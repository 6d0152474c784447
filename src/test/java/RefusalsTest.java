/** Every call that refuses: what it refuses, in which order it looks, and that it changes nothing then. */
public final class RefusalsTest {
    private static final int UNKNOWN = GutterGardens.UNKNOWN;
    private static final int OUTSIDE = GutterGardens.OUTSIDE;
    private static final int STATE = GutterGardens.STATE;
    private static final int FULL = GutterGardens.FULL;
    private static final int NONE = GutterGardens.NONE;
    private static final int LEAST = Integer.MIN_VALUE;
    private static final int MOST = Integer.MAX_VALUE;
    /** On Twins.full() there are 6 ROOFS. */
    private static final int[] NO_ROOFS = {LEAST, -1, 6, 7, MOST};
    private static final int[] NO_RAINS = {LEAST, -1, 10, MOST};
    private static final int[] NOT_ONE_TO_NINE = {LEAST, -1, 0, 10, MOST};
    private static final int[] NOT_ONE_TO_SIX = {LEAST, -1, 0, 7, MOST};
    private static final int[] NOT_TO_TWENTY = {LEAST, -1, 21, MOST};
    private static final boolean[] BOTH = {false, true};

    public static void main(String[] args) {
        firstThatACallNames();
        refusalsAreNumbers();
        noneIsMinusNine();
        write();
        street();
        roof();
        dam();
        quarter();
        pail();
        soap();
        undo();
        got();
        butt();
        damsAndEnough();
        plan();
        planAt();
        each();
        gauge();
        dammed();
        luck();
        fractions();
        summer();
        keep();
        again();
        count();
        Due.end();
    }

    private static void full(String name, long refusal, Twins.Call call) {
        Twins.refused(Twins::full, name, refusal, call);
    }

    private static void bare(String name, long refusal, Twins.Call call) {
        Twins.refused(Twins::bare, name, refusal, call);
    }

    // ---- what goes for all of them

    private static void firstThatACallNames() {
        Due.sentence("refusals", "REFUSALS, of several the first that a call names:");
        full("write: OUTSIDE, FULL", OUTSIDE, x -> x.write(9, 0));
        full("roof: UNKNOWN, OUTSIDE", UNKNOWN, x -> x.roof(6, 10));
        full("pail: UNKNOWN, OUTSIDE", UNKNOWN, x -> x.pail(6, 0));
        full("pail: OUTSIDE, STATE", OUTSIDE, x -> x.pail(1, 10));
        full("soap: UNKNOWN, OUTSIDE", UNKNOWN, x -> x.soap(6, 0));
        full("soap: OUTSIDE, STATE", OUTSIDE, x -> x.soap(1, 10));
        full("soap: OUTSIDE, FULL", OUTSIDE, x -> x.soap(0, 10));
        full("got: UNKNOWN, OUTSIDE", UNKNOWN, x -> x.got(6, 21, 10));
        full("plan: OUTSIDE, STATE", OUTSIDE, x -> x.plan(4, 0));
        full("planAt: OUTSIDE, STATE", OUTSIDE, x -> x.planAt(3, 10, 0));
        full("gauge: OUTSIDE, FULL", OUTSIDE, x -> x.gauge(1, 0, 1000));
        full("luck: UNKNOWN, OUTSIDE", UNKNOWN, x -> x.luck(6, 9, 10, 11, false));
        full("summer: UNKNOWN, OUTSIDE", UNKNOWN, x -> x.summer(6, 41));
    }

    private static void refusalsAreNumbers() {
        Due.sentence("refusals", "UNKNOWN (there is no such ROOF, SLOT), OUTSIDE (another number is not as told), "
            + "STATE (as told), FULL. What is refused changes nothing.");
        full("there is no such roof", -1, x -> x.dam(6, true));
        full("there is no such slot", -1, x -> x.keep(2));
        full("rain is not as told", -2, x -> x.quarter(10));
        full("there is no water", -3, x -> x.pail(1, 1));
        full("there is no room", -4, x -> x.write(1, 71));
    }

    private static void noneIsMinusNine() {
        Due.sentence("refusals", "NONE is -9.");
        Due.is("NONE", GutterGardens.NONE, -9);
        Due.is("no fault", Due.faultOf("G"), -9);
        Due.is("no such quarter", new GutterGardens().planAt(1, 0, 1), -9);
        GutterGardens x = new GutterGardens();
        x.gauge(1, 0, 1);
        Due.is("none fits", x.dammed(true), -9);
    }

    // ---- the street

    private static void write() {
        Due.sentence("P2", "OUTSIDE; FULL: it would be longer than 40");
        int[] outside = {LEAST, -8, -1, 0, 9, 10, MOST};
        for (int n : outside) {
            full("write " + n, OUTSIDE, x -> x.write(n, 71));
            bare("write " + n, OUTSIDE, x -> x.write(n, -1));
        }
        for (int n = 1; n <= 8; n++) {
            int bytes = n;
            full("write " + n, FULL, x -> x.write(bytes, -1));
        }
    }

    private static void street() {
        Due.sentence("P5", "STATE: a FAULT.");
        bare("behind a street", STATE, x -> x.street());
        Twins.refused(GutterGardens::new, "of no text", STATE, x -> x.street());
        Twins.refused(() -> wipedBare("GR19"), "not at its end", STATE, x -> x.street());
    }

    private static GutterGardens wipedBare(String text) {
        GutterGardens x = Twins.bare();
        Due.text(x, text);
        return x;
    }

    private static void roof() {
        Due.sentence("P6", "UNKNOWN; OUTSIDE.");
        int[] outside = {LEAST, -1, 10, MOST};
        for (int roof : NO_ROOFS) {
            full("roof " + roof, UNKNOWN, x -> x.roof(roof, 0));
            full("roof " + roof, UNKNOWN, x -> x.roof(roof, 9));
            for (int what : outside) full("roof " + roof + " " + what, UNKNOWN, x -> x.roof(roof, what));
        }
        for (int what : outside) full("what " + what, OUTSIDE, x -> x.roof(5, what));
        bare("roof 2 of two", UNKNOWN, x -> x.roof(2, 0));
        Twins.refused(GutterGardens::new, "roof 0 of none", UNKNOWN, x -> x.roof(0, 0));
    }

    private static void dam() {
        Due.sentence("P7", "UNKNOWN.");
        for (boolean is : BOTH) {
            for (int roof : NO_ROOFS) full("dam " + roof, UNKNOWN, x -> x.dam(roof, is));
            bare("dam 2 of two", UNKNOWN, x -> x.dam(2, is));
            Twins.refused(GutterGardens::new, "dam 0 of none", UNKNOWN, x -> x.dam(0, is));
        }
    }

    // ---- acts

    private static void quarter() {
        Due.sentence("P8", "OUTSIDE: rain.");
        for (int rain : NO_RAINS) {
            full("rain " + rain, OUTSIDE, x -> x.quarter(rain));
            bare("rain " + rain, OUTSIDE, x -> x.quarter(rain));
        }
    }

    private static void pail() {
        Due.sentence("P9", "UNKNOWN; OUTSIDE: n; STATE: there is less.");
        for (int roof : NO_ROOFS) {
            full("pail on " + roof, UNKNOWN, x -> x.pail(roof, 1));
            for (int n : NOT_ONE_TO_NINE) full("pail on " + roof, UNKNOWN, x -> x.pail(roof, n));
        }
        for (int n : NOT_ONE_TO_NINE) {
            full("pail " + n, OUTSIDE, x -> x.pail(0, n));
            full("pail " + n + " of none", OUTSIDE, x -> x.pail(1, n));
        }
        full("pail 1 of none", STATE, x -> x.pail(1, 1));
        full("pail 9 of none", STATE, x -> x.pail(2, 9));
        bare("pail 4 of 3", STATE, x -> x.pail(0, 4));
    }

    private static void soap() {
        Due.sentence("P10", "UNKNOWN; OUTSIDE: n; STATE: there is no WATER; FULL: there would be more than 99.");
        for (int roof : NO_ROOFS) {
            full("soap on " + roof, UNKNOWN, x -> x.soap(roof, 1));
            for (int n : NOT_ONE_TO_NINE) full("soap on " + roof, UNKNOWN, x -> x.soap(roof, n));
        }
        for (int n : NOT_ONE_TO_NINE) {
            full("soap " + n + " on full", OUTSIDE, x -> x.soap(0, n));
            full("soap " + n + " on dry", OUTSIDE, x -> x.soap(1, n));
        }
        for (int n = 1; n <= 9; n++) {
            int soap = n;
            full("soap on dry", STATE, x -> x.soap(1, soap));
            full("soap on full", FULL, x -> x.soap(0, soap));
        }
    }

    private static void undo() {
        Due.sentence("P11", "STATE: there is none.");
        bare("undo", STATE, x -> x.undo());
        Twins.refused(GutterGardens::new, "undo", STATE, x -> x.undo());
    }

    // ---- what comes

    private static void got() {
        Due.sentence("P12", "UNKNOWN; OUTSIDE: n, rain.");
        for (int roof : NO_ROOFS) {
            full("got " + roof, UNKNOWN, x -> x.got(roof, 0, 0));
            full("got " + roof, UNKNOWN, x -> x.got(roof, 21, 0));
            full("got " + roof, UNKNOWN, x -> x.got(roof, 0, 10));
        }
        for (int n : NOT_TO_TWENTY) full("got behind " + n, OUTSIDE, x -> x.got(5, n, 0));
        for (int rain : NO_RAINS) {
            full("got with " + rain, OUTSIDE, x -> x.got(5, 20, rain));
            full("got behind none with " + rain, OUTSIDE, x -> x.got(5, 0, rain));
        }
    }

    private static void butt() {
        Due.sentence("P13", "OUTSIDE: n, rain.");
        for (boolean soap : BOTH) {
            for (int n : NOT_TO_TWENTY) full("butt behind " + n, OUTSIDE, x -> x.butt(n, 0, soap));
            for (int rain : NO_RAINS) {
                full("butt with " + rain, OUTSIDE, x -> x.butt(20, rain, soap));
                full("butt behind none with " + rain, OUTSIDE, x -> x.butt(0, rain, soap));
            }
        }
    }

    private static void damsAndEnough() {
        Due.sentence("P14", "OUTSIDE: n, rain.");
        for (int n : NOT_ONE_TO_SIX) full("dams for " + n, OUTSIDE, x -> x.dams(n, 0));
        for (int rain : NO_RAINS) full("dams with " + rain, OUTSIDE, x -> x.dams(6, rain));
        Due.sentence("P15", "OUTSIDE.");
        for (int n : NOT_ONE_TO_SIX) full("enough for " + n, OUTSIDE, x -> x.enough(n, 0));
        for (int rain : NO_RAINS) full("enough with " + rain, OUTSIDE, x -> x.enough(6, rain));
    }

    private static void plan() {
        Due.sentence("P16", "OUTSIDE: n (1 to 3), rain; STATE: more than 4 ROOFS.");
        int[] outside = {LEAST, -1, 0, 4, MOST};
        for (int n : outside) {
            full("plan for " + n, OUTSIDE, x -> x.plan(n, 0));
            bare("plan for " + n, OUTSIDE, x -> x.plan(n, 0));
        }
        for (int rain : NO_RAINS) {
            full("plan with " + rain, OUTSIDE, x -> x.plan(1, rain));
            bare("plan with " + rain, OUTSIDE, x -> x.plan(3, rain));
        }
        full("plan of six", STATE, x -> x.plan(1, 0));
        full("plan of six", STATE, x -> x.plan(3, 9));
    }

    private static void planAt() {
        Due.sentence("P17", "NONE: there is none such. OUTSIDE; STATE.");
        int[] outside = {LEAST, -1, 0, 4, MOST};
        for (int n : outside) {
            full("planAt for " + n, OUTSIDE, x -> x.planAt(n, 0, 0));
            bare("planAt for " + n, OUTSIDE, x -> x.planAt(n, 0, 0));
            bare("planAt for " + n + ": no plan, and no quarter of it", OUTSIDE, x -> x.planAt(n, 0, 4));
        }
        for (int rain : NO_RAINS) {
            full("planAt with " + rain, OUTSIDE, x -> x.planAt(1, rain, 0));
            bare("planAt with " + rain, OUTSIDE, x -> x.planAt(3, rain, 0));
        }
        full("planAt of six", STATE, x -> x.planAt(1, 0, 0));
        full("planAt of six: no plan, and no quarter of it", STATE, x -> x.planAt(1, 0, 1));
        bare("planAt -1", NONE, x -> x.planAt(3, 0, -1));
        bare("planAt 1 of 1", NONE, x -> x.planAt(1, 0, 1));
    }

    private static void each() {
        Due.sentence("P18", "OUTSIDE: n, rain.");
        for (int n : NOT_ONE_TO_SIX) full("each for " + n, OUTSIDE, x -> x.each(n, 0));
        for (int rain : NO_RAINS) full("each with " + rain, OUTSIDE, x -> x.each(6, rain));
    }

    // ---- gauges, luck

    private static void gauge() {
        Due.sentence("P19", "OUTSIDE: t, rain, w; FULL: 6.");
        int[] noWaters = {LEAST, -1, 1000, MOST};
        for (int t : NOT_ONE_TO_SIX) {
            bare("gauge behind " + t, OUTSIDE, x -> x.gauge(t, 0, 0));
            full("gauge behind " + t, OUTSIDE, x -> x.gauge(t, 0, 0));
        }
        for (int rain : NO_RAINS) {
            bare("gauge with " + rain, OUTSIDE, x -> x.gauge(1, rain, 0));
            full("gauge with " + rain, OUTSIDE, x -> x.gauge(1, rain, 0));
        }
        for (int w : noWaters) {
            bare("gauge of " + w, OUTSIDE, x -> x.gauge(1, 0, w));
            full("gauge of " + w, OUTSIDE, x -> x.gauge(1, 0, w));
        }
        full("a seventh gauge", FULL, x -> x.gauge(1, 0, 0));
        full("a seventh gauge", FULL, x -> x.gauge(6, 9, 999));
    }

    private static void dammed() {
        Due.sentence("P22", "NONE: none fits.");
        for (boolean some : BOTH) full("dammed", NONE, x -> x.dammed(some));
    }

    private static void luck() {
        Due.sentence("P23", "UNKNOWN; OUTSIDE: n, rain, x.");
        int[] noQuarters = {LEAST, -1, 9, MOST};
        int[] noTenths = {LEAST, -1, 11, MOST};
        for (boolean upper : BOTH) {
            for (int roof : NO_ROOFS) {
                full("luck of " + roof, UNKNOWN, x -> x.luck(roof, 0, 0, 0, upper));
                full("luck of " + roof, UNKNOWN, x -> x.luck(roof, 9, 0, 0, upper));
                full("luck of " + roof, UNKNOWN, x -> x.luck(roof, 0, 10, 0, upper));
                full("luck of " + roof, UNKNOWN, x -> x.luck(roof, 0, 0, 11, upper));
            }
            for (int n : noQuarters) full("luck for " + n, OUTSIDE, x -> x.luck(5, n, 0, 0, upper));
            for (int rain : NO_RAINS) full("luck with " + rain, OUTSIDE, x -> x.luck(5, 0, rain, 0, upper));
            for (int tenths : noTenths) full("luck by " + tenths, OUTSIDE, x -> x.luck(5, 0, 0, tenths, upper));
        }
    }

    private static void fractions() {
        Due.sentence("refusals", "FRACTIONS are told above (upper = true), below (1 and more), in least terms; "
            + "refusals of them are told likewise.");
        for (boolean upper : BOTH) {
            full("luck of no roof", -1, x -> x.luck(6, 0, 0, 0, upper));
            full("luck for nine", -2, x -> x.luck(0, 9, 0, 0, upper));
        }
        GutterGardens once = Due.on("GR1911");
        for (int n = 1; n <= 8; n++) {
            for (int tenths = 0; tenths <= 10; tenths++) {
                long above = once.luck(0, n, 1, tenths, true);
                long below = once.luck(0, n, 1, tenths, false);
                long all = (long) Math.pow(10, n);
                Due.that("below is 1 and more", below >= 1 && all % below == 0);
                Due.is("the chance", above * (all / below), all - (long) Math.pow(10 - tenths, n));
                Due.that("by 2", above % 2 != 0 || below % 2 != 0);
                Due.that("by 5", above % 5 != 0 || below % 5 != 0);
            }
        }
        Due.is("none is 0", once.luck(0, 8, 0, 3, true), 0);
        Due.is("by 1", once.luck(0, 8, 0, 3, false), 1);
        Due.is("all is 1", once.luck(0, 8, 1, 10, true), 1);
        Due.is("by 1, too", once.luck(0, 8, 1, 10, false), 1);
    }

    private static void summer() {
        Due.sentence("P25", "UNKNOWN; OUTSIDE: m.");
        int[] outside = {LEAST, -1, 0, 41, MOST};
        for (int roof : NO_ROOFS) {
            full("summer of " + roof, UNKNOWN, x -> x.summer(roof, 1));
            full("summer of " + roof, UNKNOWN, x -> x.summer(roof, 0));
        }
        for (int m : outside) full("summer " + m, OUTSIDE, x -> x.summer(5, m));
        Twins.refused(GutterGardens::new, "summer on no roofs", UNKNOWN, x -> x.summer(0, 1));
    }

    // ---- slots

    private static void keep() {
        Due.sentence("P26", "UNKNOWN.");
        int[] noSlots = {LEAST, -1, 2, MOST};
        for (int slot : noSlots) {
            full("keep " + slot, UNKNOWN, x -> x.keep(slot));
            bare("keep " + slot, UNKNOWN, x -> x.keep(slot));
        }
    }

    private static void again() {
        Due.sentence("P27", "UNKNOWN; STATE: none were kept.");
        int[] noSlots = {LEAST, -1, 2, MOST};
        for (int slot : noSlots) {
            full("again " + slot, UNKNOWN, x -> x.again(slot));
            bare("again " + slot, UNKNOWN, x -> x.again(slot));
        }
        bare("again 0", STATE, x -> x.again(0));
        Twins.refused(RefusalsTest::withActs, "again 1", STATE, x -> x.again(1));
    }

    /** Nothing is kept in SLOT 1, and the row of acts would be seen to be emptied. */
    private static GutterGardens withActs() {
        GutterGardens x = Due.on("GR1199W05");
        x.keep(0);
        x.quarter(1);
        x.soap(0, 3);
        return x;
    }

    private static void count() {
        Due.sentence("P28", "OUTSIDE.");
        int[] outside = {LEAST, -1, 10, MOST};
        for (int what : outside) {
            full("count " + what, OUTSIDE, x -> x.count(what));
            bare("count " + what, OUTSIDE, x -> x.count(what));
        }
    }
}
