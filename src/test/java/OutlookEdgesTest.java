/** The edges that the document names of what comes: section 2, promises 12 to 18. */
public final class OutlookEdgesTest {
    private static final int OUTSIDE = GutterGardens.OUTSIDE;
    private static final int STATE = GutterGardens.STATE;
    private static final int NONE = GutterGardens.NONE;
    private static final String EITHER = "GR1929R1929W03";
    private static final String FIVE = "GR0101R0101R0101R0101R0101";

    public static void main(String[] args) {
        nothingIsChanged();
        fromNowOn();
        asMuchOrMore();
        damsOneToSix();
        damsThatStay();
        mostHaveEnough();
        fewestDams();
        leastSet();
        planOneToThree();
        planQuarterByQuarter();
        planMost();
        planFirst();
        planOfFourRoofs();
        eachOneToSix();
        eachByThoseAhead();
        eachGotMost();
        eachOfLikeOnesNone();
        gotZeroToTwenty();
        butt();
        damsAsBits();
        enoughByThem();
        planAnswers();
        planAtAnswers();
        noSuchQuarter();
        eachAsBits();
        Due.end();
    }

    // ---- section 2

    private static void nothingIsChanged() {
        Due.sentence("2", "nothing is changed.");
        Twins.unchanged(Twins::full, "got", x -> x.got(5, 20, 9));
        Twins.unchanged(Twins::full, "butt", x -> x.butt(20, 9, false));
        Twins.unchanged(Twins::full, "butt, soap", x -> x.butt(20, 9, true));
        Twins.unchanged(Twins::full, "dams", x -> x.dams(6, 9));
        Twins.unchanged(Twins::full, "enough", x -> x.enough(6, 9));
        Twins.unchanged(Twins::full, "each", x -> x.each(6, 9));
        Twins.unchanged(Twins::bare, "plan", x -> x.plan(3, 9));
        Twins.unchanged(Twins::bare, "planAt", x -> x.planAt(3, 9, 2));
        Twins.refused(Twins::bare, "planAt where there is none", NONE, x -> x.planAt(3, 9, 3));
    }

    private static void fromNowOn() {
        Due.sentence("2", "In what follows QUARTERS with like RAIN are looked at from now on;");
        GutterGardens x = Due.on("GR1949W03");
        Due.is("three more would be one too few", x.enough(3, 0), 0);
        x.dam(0, true);
        x.quarter(0);
        Due.is("got behind two more", x.got(0, 2, 0), 3);
        x.quarter(2);
        Due.is("two got, three water there", x.enough(2, 0), 1);
        Due.is("the same rain each", x.got(0, 3, 1), 5);
        x.undo();
        Due.is("as it is now, again", x.enough(2, 0), 0);
    }

    private static void asMuchOrMore() {
        Due.sentence("2", "A ROOF has ENOUGH, if it has GOT as much as its PLANTS want, or more.");
        GutterGardens x = Due.on("GR1159R1101");
        for (int got = 0; got <= 7; got++) {
            Due.is("got " + got, x.roof(0, 2), got);
            Due.is("enough", x.roof(0, 4), got >= 5 ? 1 : 0);
            Due.is("roof 1 wants nothing", x.roof(1, 4), 1);
            Due.is("bits", x.count(5), got >= 5 ? 3 : 2);
            Due.is("behind one more", x.enough(1, 1), got + 1 >= 5 ? 2 : 1);
            Due.is("luck", x.luck(0, 0, 0, 0, true), got >= 5 ? 1 : 0);
            x.quarter(1);
        }
    }

    private static void damsOneToSix() {
        Due.sentence("2", "THE DAMS for n QUARTERS (1 to 6) with RAIN r:");
        GutterGardens x = Due.on("GR1969W06");
        Due.is("for 0", x.dams(0, 0), OUTSIDE);
        for (int n = 1; n <= 6; n++) {
            Due.is("for " + n, x.dams(n, 0), n == 6 ? 1 : 0);
            Due.is("enough for " + n, x.enough(n, 0), n == 6 ? 1 : 0);
        }
        Due.is("for 7", x.dams(7, 0), OUTSIDE);
    }

    private static void damsThatStay() {
        Due.sentence("2", "a set of DAMS that stays,");
        GutterGardens x = Due.on("GR1929R1919W03");
        Due.is("roof 0 first, then roof 1, is no set that stays", x.enough(3, 0), 1);
        Due.is("but a plan", x.plan(3, 0), 2);
        GutterGardens y = Due.on("GR1939W03");
        y.dam(0, true);
        Due.is("the dams of now do not stay", y.dams(2, 0), 0);
        y.dam(0, false);
        Due.is("nor that there are none now", y.dams(3, 0), 1);
    }

    private static void mostHaveEnough() {
        Due.sentence("2", "by which most ROOFS have ENOUGH behind them;");
        GutterGardens x = Due.on("GR1939R1939R0101W03W13");
        Due.is("two dams for three roofs, not one for two, not none for one", x.dams(3, 0), 3);
        Due.is("three", x.enough(3, 0), 3);
        GutterGardens four = Due.on("GR1929R1929R1929R1929W02W12W22W32");
        Due.is("four dams for four, not none for three", four.dams(2, 0), 15);
        Due.is("four", four.enough(2, 0), 4);
        Due.is("none can have enough", Due.on("GR0191W09").dams(6, 9), 0);
    }

    private static void fewestDams() {
        Due.sentence("2", "of like ones the one with the fewest DAMS,");
        GutterGardens x = Due.on("GR2939R2239R1739W03W13W22");
        Due.is("a dam on roof 2, not the lesser set of roofs 0 and 1", x.dams(3, 0), 4);
        Due.is("two", x.enough(3, 0), 2);
        Due.is("none, where they do not help", Due.on("GR1919R1919W01W11").dams(6, 0), 0);
    }

    private static void leastSet() {
        Due.sentence("2", "of these the least set (bits).");
        Due.is("either one: roof 0", Due.on(EITHER).dams(3, 0), 1);
        Due.is("either of the last two: roof 1", Due.on("GR0101" + EITHER.substring(1, 11) + "W13").dams(3, 0), 2);
    }

    private static void planOneToThree() {
        Due.sentence("2", "THE PLAN for n QUARTERS (1 to 3) with RAIN r:");
        GutterGardens x = Due.on("GR1939W03");
        Due.is("for 0", x.plan(0, 0), OUTSIDE);
        for (int n = 1; n <= 3; n++) Due.is("for " + n, x.plan(n, 0), n == 3 ? 1 : 0);
        Due.is("for 4", x.plan(4, 0), OUTSIDE);
        for (int n = 1; n <= 3; n++) Due.is("with rain for " + n, x.plan(n, 1), n == 3 ? 1 : 0);
    }

    private static void planQuarterByQuarter() {
        Due.sentence("2", "a set of DAMS for each of them,");
        GutterGardens x = Due.on("GR1929R1919W03");
        planIs(x, 3, 0, 1, 0, 0);
        planIs(Due.on(EITHER), 3, 0, 0, 2, 0);
        planIs(Due.on("GR1939W03"), 3, 0, 1, 1, 0);
    }

    private static void planMost() {
        Due.sentence("2", "by which most have ENOUGH; of like ones the first");
        String[] streets = {EITHER, "GR1929R1919W03", "GR1939R1929W03W12", "GR2939R2239W03W13", "GR1919R1929W02"};
        for (String street : streets) {
            for (int rain = 0; rain <= 1; rain++) playsBest(street, rain);
        }
    }

    /** All plans for three quarters on two roofs are played, the first one first. */
    private static void playsBest(String street, int rain) {
        int best = -1;
        int first = 0;
        for (int plan = 0; plan < 64; plan++) {
            int enough = played(street, rain, plan);
            if (enough > best) {
                best = enough;
                first = plan;
            }
        }
        GutterGardens x = Due.on(street);
        Due.is(street + " with " + rain, x.plan(3, rain), best);
        planIs(x, 3, rain, first / 16, first / 4 % 4, first % 4);
    }

    private static int played(String street, int rain, int plan) {
        GutterGardens x = Due.on(street);
        for (int i = 2; i >= 0; i--) {
            int set = plan >> (2 * i) & 3;
            for (int roof = 0; roof < 2; roof++) x.dam(roof, (set >> roof & 1) == 1);
            x.quarter(rain);
        }
        return Integer.bitCount(x.count(5));
    }

    private static void planFirst() {
        Due.sentence("2", "the first by the set of the first QUARTER, then the second, ..");
        planIs(Due.on(EITHER), 3, 0, 0, 2, 0);
        planIs(Due.on("GR1929R1929R1929R1929W03W13W23W33"), 3, 0, 1, 0, 0);
        planIs(Due.on("GR1929R1929R1929R1929W02W12W22W32"), 2, 0, 15, 0);
        planIs(Due.on("GR0101R0101R0101R1939W33"), 3, 0, 8, 8, 0);
        planIs(Due.on("GR1919"), 3, 9, 0, 0, 0);
    }

    private static void planIs(GutterGardens x, int n, int rain, int... sets) {
        for (int i = 0; i < n; i++) Due.is("plan for " + n + " at " + i, x.planAt(n, rain, i), sets[i]);
    }

    private static void planOfFourRoofs() {
        Due.sentence("2", "(Asked where there are 4 ROOFS at most.)");
        for (int roofs = 0; roofs <= 6; roofs++) {
            GutterGardens x = Due.on((FIVE + "R0101").substring(0, 1 + 5 * roofs));
            Due.is("plan of " + roofs, x.plan(3, 9), roofs <= 4 ? roofs : STATE);
            Due.is("planAt of " + roofs, x.planAt(3, 9, 0), roofs <= 4 ? 0 : STATE);
        }
    }

    private static void eachOneToSix() {
        Due.sentence("2", "EACH FOR ITSELF for n QUARTERS (1 to 6) with RAIN r:");
        GutterGardens x = Due.on("GR1199W09");
        Due.is("for 0", x.each(0, 0), OUTSIDE);
        for (int n = 1; n <= 6; n++) Due.is("nine are gone behind five, for " + n, x.each(n, 0), n == 6 ? 1 : 0);
        Due.is("for 7", x.each(7, 0), OUTSIDE);
    }

    private static void eachByThoseAhead() {
        Due.sentence("2", "ROOF 0 has a DAM or none all the time, then ROOF 1, .., each by what those ahead of it have, "
            + "knowing what those behind it will do then,");
        GutterGardens x = Due.on("GR1199R1999W04W13");
        Due.is("roof 0 lets nothing down, so roof 1 keeps its own", x.each(3, 0), 3);
        Due.is("else it would have had no need", Due.on("GR1199R1999W04W13").got(1, 3, 0), 3);
        GutterGardens y = Due.on("GR0199R1999W04W13");
        Due.is("roof 0 has no soil, and lets down", y.each(3, 0), 0);
        y.dam(0, true);
        Due.is("what it has now does not matter", y.each(3, 0), 0);
        Due.is("nor what those behind have", Due.on("GR1939R1939R1939W03W13W23").each(3, 0), 7);
    }

    private static void eachGotMost() {
        Due.sentence("2", "so that it has GOT most;");
        Due.is("more than its plants want", Due.on("GR1919W03").each(6, 0), 1);
        Due.is("less than they want, but more than without", Due.on("GR1999W03").each(6, 0), 1);
        Due.is("two, by a brim of 1", Due.on("GR1911W03").each(6, 0), 1);
        Due.is("roof 0 for itself, though roof 1 has less then", Due.on("GR1929R1919W03").each(3, 0), 1);
    }

    private static void eachOfLikeOnesNone() {
        Due.sentence("2", "of like ones none.");
        Due.is("one quarter: dams come too late", Due.on("GR2999R2999W09W19").each(1, 0), 0);
        Due.is("rain enough", Due.on("GR2999R2999W09W19").each(6, 2), 0);
        Due.is("no soil", Due.on("GR0999R0999W09W19").each(6, 0), 0);
        Due.is("no water", Due.on("GR9999R9999").each(6, 0), 0);
    }

    // ---- promises 12 to 18

    private static void gotZeroToTwenty() {
        Due.sentence("P12", "What a ROOF has GOT behind n QUARTERS (0 to 20) with RAIN rain.");
        GutterGardens x = Due.on("GR0999R1199");
        Due.is("behind -1", x.got(1, -1, 1), OUTSIDE);
        for (int n = 0; n <= 20; n++) Due.is("behind " + n, x.got(1, n, 1), n);
        Due.is("behind 21", x.got(1, 21, 1), OUTSIDE);
        x.quarter(1);
        Due.is("with what it has now", x.got(1, 20, 1), 21);
        Due.is("what it has now", x.got(1, 0, 9), 1);
        Due.is("roof 0 has no soil", x.got(0, 20, 9), 0);
        GutterGardens y = Due.on("GR1939W03");
        y.dam(0, true);
        Due.is("by the dams of now", y.got(0, 20, 0), 3);
    }

    private static void butt() {
        Due.sentence("P13", "What is in THE BUTT behind them (soap = false: WATER, else SOAP).");
        GutterGardens x = Due.on("GR0299W09");
        x.soap(0, 9);
        x.pail(0, 1);
        x.soap(0, 8);
        Due.is("behind -1", x.butt(-1, 0, false), OUTSIDE);
        for (int n = 0; n <= 20; n++) {
            Due.is("water behind " + n, x.butt(n, 0, false), Math.min(2 * n, 8));
            Due.is("soap behind " + n, x.butt(n, 0, true), Math.min(4 * n, 16));
        }
        Due.is("behind 21", x.butt(21, 0, true), OUTSIDE);
        x.quarter(0);
        x.pail(0, 3);
        Due.is("with what is there now", x.butt(20, 0, false), 5);
        Due.is("what is there now", x.butt(0, 9, true), 4);
        x.dam(0, true);
        Due.is("by the dams of now", x.butt(20, 0, false), 2);
    }

    private static void damsAsBits() {
        Due.sentence("P14", "THE DAMS, as bits.");
        for (int roof = 0; roof < 6; roof++) {
            String street = "GR0101R0101R0101R0101R0101R0101";
            String one = street.substring(0, 1 + 5 * roof) + "R1939" + street.substring(6 + 5 * roof) + "W" + roof + "3";
            Due.is("roof " + roof, Due.on(one).dams(3, 0), 1 << roof);
        }
        Due.is("no roofs", new GutterGardens().dams(6, 9), 0);
    }

    private static void enoughByThem() {
        Due.sentence("P15", "How many ROOFS have ENOUGH by them.");
        GutterGardens x = Due.on("GR1939R1939W03W13");
        Due.is("by none, for two", x.enough(2, 0), 0);
        Due.is("by both, for three", x.enough(3, 0), 2);
        Due.is("by those that are there now it would be none", x.got(0, 3, 0), 1);
        Due.is("who wants nothing has enough", Due.on(FIVE + "R0101").enough(1, 0), 6);
        Due.is("no roofs", new GutterGardens().enough(1, 0), 0);
    }

    private static void planAnswers() {
        Due.sentence("P16", "THE PLAN: how many have ENOUGH.");
        Due.is("both", Due.on("GR1929R1919W03").plan(3, 0), 2);
        Due.is("one", Due.on("GR1929R1919W03").plan(2, 0), 1);
        Due.is("none", Due.on("GR1929R1919W03").plan(1, 0), 0);
        Due.is("no roofs", new GutterGardens().plan(3, 0), 0);
    }

    private static void planAtAnswers() {
        Due.sentence("P17", "DAMS of its i-th QUARTER (from 0), as bits;");
        GutterGardens x = Due.on("GR1929R1929W03");
        Due.is("planned by itself", x.planAt(3, 0, 1), 2);
        x.plan(3, 9);
        Due.is("whatever was planned ahead of it", x.planAt(3, 0, 1), 2);
        Due.is("the first", x.planAt(3, 0, 0), 0);
        Due.is("the last", x.planAt(3, 0, 2), 0);
        x.dam(0, true);
        x.quarter(0);
        Due.is("from now on", x.planAt(2, 0, 0), 0);
        GutterGardens y = Due.on("GR1939R1939R1939R1939W03W13W23W33");
        for (int i = 0; i < 3; i++) Due.is("four bits at " + i, y.planAt(3, 0, i), i < 2 ? 15 : 0);
    }

    private static void noSuchQuarter() {
        Due.sentence("P17", "NONE: there is none such.");
        GutterGardens x = Due.on("GR1939W03");
        for (int n = 1; n <= 3; n++) {
            Due.is("-1 of " + n, x.planAt(n, 0, -1), NONE);
            for (int i = 0; i <= 4; i++) Due.is(i + " of " + n, x.planAt(n, 0, i), i >= n ? NONE : n == 3 && i < 2 ? 1 : 0);
            Due.is("least of " + n, x.planAt(n, 0, Integer.MIN_VALUE), NONE);
            Due.is("most of " + n, x.planAt(n, 0, Integer.MAX_VALUE), NONE);
        }
    }

    private static void eachAsBits() {
        Due.sentence("P18", "EACH FOR ITSELF: who has a DAM, as bits.");
        Due.is("all but roof 0, of six", Due.on("GR0101R1939R1939R1939W13W23W33").each(3, 0), 14);
        Due.is("roof 5 of six", Due.on(FIVE + "R1939W53").each(3, 0), 32);
        Due.is("no roofs", new GutterGardens().each(6, 9), 0);
    }
}
