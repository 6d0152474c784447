/** The edges that the document names of water, soap and acts: the rest of section 1, promises 6 to 11. */
public final class WaterEdgesTest {
    private static final int UNKNOWN = GutterGardens.UNKNOWN;
    private static final int OUTSIDE = GutterGardens.OUTSIDE;
    private static final int STATE = GutterGardens.STATE;
    private static final int FULL = GutterGardens.FULL;

    public static void main(String[] args) {
        wholeNumbers();
        gotWhatSoilDrank();
        soapGoesAlong();
        soapIsCut();
        allWaterAllSoap();
        noDamAtFirst();
        rainZeroToNine();
        rainOnEach();
        soilDrinksFirst();
        allAtOnce();
        byTheGutter();
        noneOverADam();
        aboveTheBrim();
        soapOnce();
        downToTheButt();
        actsAreARow();
        twelveActs();
        lastActIsUndone();
        damsStay();
        spoiltSoap();
        roofAnswers();
        damAnswers();
        quarterAnswers();
        pailTakesAway();
        pailOfLess();
        soapPutIn();
        soapWithoutWater();
        soapToNinetyNine();
        undoAnswers();
        undoOfNone();
        Due.end();
    }

    /** WATER, SOAP, GOT and SPOILT of a ROOF. */
    private static void roofIs(GutterGardens x, int roof, int water, int soap, int got, int spoilt) {
        Due.is("water on roof " + roof, x.roof(roof, 0), water);
        Due.is("soap on roof " + roof, x.roof(roof, 1), soap);
        Due.is("roof " + roof + " has got", x.roof(roof, 2), got);
        Due.is("spoilt on roof " + roof, x.roof(roof, 3), spoilt);
    }

    private static void buttIs(GutterGardens x, int water, int soap) {
        Due.is("water in the butt", x.count(3), water);
        Due.is("soap in the butt", x.count(4), soap);
    }

    private static GutterGardens soaped(String text, int soap) {
        GutterGardens x = Due.on(text);
        x.soap(0, soap);
        return x;
    }

    private static GutterGardens dammed(String text) {
        GutterGardens x = Due.on(text);
        x.dam(0, true);
        return x;
    }

    // ---- section 1: water and soap

    private static void wholeNumbers() {
        Due.sentence("1", "WATER and SOAP are whole numbers on each ROOF and in THE BUTT;");
        GutterGardens x = soaped("GR0199W02", 1);
        x.quarter(0);
        roofIs(x, 0, 1, 1, 0, 0);
        buttIs(x, 1, 0);
        x.quarter(0);
        roofIs(x, 0, 0, 0, 0, 0);
        buttIs(x, 2, 1);
    }

    private static void gotWhatSoilDrank() {
        Due.sentence("1", "a ROOF has GOT what its SOIL drank.");
        GutterGardens x = Due.on("GR0901R3901");
        x.quarter(9);
        x.quarter(9);
        Due.is("no soil", x.roof(0, 2), 0);
        Due.is("three, and three", x.roof(1, 2), 6);
        x.pail(1, 1);
        Due.is("a pail is not drunk", x.roof(1, 2), 6);
    }

    private static void soapGoesAlong() {
        Due.sentence("1", "Where WATER goes, SOAP goes along: SOAP there times WATER that goes, by WATER there,");
        GutterGardens x = soaped("GR2399R0999W06", 9);
        x.quarter(0);
        roofIs(x, 0, 1, 2, 2, 3);
        roofIs(x, 1, 3, 4, 0, 0);
        GutterGardens y = soaped("GR2399W03", 6);
        y.quarter(3);
        roofIs(y, 0, 1, 1, 2, 2);
        buttIs(y, 3, 3);
        Due.is("a pail", soaped("GR0199W06", 9).pail(0, 2), 3);
    }

    private static void soapIsCut() {
        Due.sentence("1", "by WATER there, cut");
        for (int soap = 1; soap <= 9; soap++) {
            Due.is("of " + soap + " by 8 of 9", soaped("GR0899W09", soap).pail(0, 8), 8 * soap / 9);
            GutterGardens x = soaped("GR0899W09", soap);
            x.quarter(0);
            buttIs(x, 8, soap - 1);
            Due.is("one stays", x.roof(0, 1), 1);
            GutterGardens y = soaped("GR8199W09", soap);
            y.quarter(0);
            Due.is("spoilt", y.roof(0, 3), soap - 1);
        }
    }

    private static void allWaterAllSoap() {
        Due.sentence("1", "(all WATER: all SOAP).");
        GutterGardens x = soaped("GR0999W09", 7);
        x.quarter(0);
        buttIs(x, 9, 7);
        GutterGardens y = soaped("GR9999W09", 7);
        y.quarter(0);
        roofIs(y, 0, 0, 0, 9, 7);
        GutterGardens z = soaped("GR0999W09", 7);
        Due.is("a pail of all", z.pail(0, 9), 7);
        roofIs(z, 0, 0, 0, 0, 0);
        GutterGardens dry = Due.on("GR9999");
        dry.quarter(0);
        roofIs(dry, 0, 0, 0, 0, 0);
        GutterGardens half = soaped("GR5999W09", 9);
        half.quarter(0);
        roofIs(half, 0, 0, 0, 5, 5);
        buttIs(half, 4, 4);
    }

    private static void noDamAtFirst() {
        Due.sentence("1", "A DAM is there or not (at first none).");
        GutterGardens x = Due.on("GR0999R0999R0999R0999R0999R0999W03");
        Due.is("bits", x.count(6), 0);
        for (int roof = 0; roof < 6; roof++) Due.is("dam", x.roof(roof, 5), 0);
        x.quarter(0);
        Due.is("none holds it", x.roof(1, 0), 3);
        for (int roof = 0; roof < 6; roof++) {
            Due.is("is there", x.dam(roof, true), 1);
            Due.is("bits", x.count(6), (2 << roof) - 1);
        }
        for (int roof = 0; roof < 6; roof++) Due.is("dam", x.roof(roof, 5), 1);
    }

    // ---- section 1: a quarter

    private static void rainZeroToNine() {
        Due.sentence("1", "A QUARTER with RAIN r (0 to 9):");
        GutterGardens x = Due.on("GR0999");
        Due.is("-1", x.quarter(-1), OUTSIDE);
        for (int r = 0; r <= 9; r++) Due.is("rain " + r, x.quarter(r), r);
        Due.is("10", x.quarter(10), OUTSIDE);
        Due.is("ten quarters", x.count(2), 10);
    }

    private static void rainOnEach() {
        Due.sentence("1", "each ROOF has r WATER more;");
        GutterGardens x = Due.on("GR0199R0199R0199R0199R0199R0199");
        for (int roof = 0; roof < 6; roof++) x.dam(roof, true);
        x.quarter(0);
        Due.is("none", x.count(9), 0);
        x.quarter(9);
        for (int roof = 0; roof < 6; roof++) Due.is("roof " + roof, x.roof(roof, 0), 9);
        buttIs(x, 0, 0);
    }

    private static void soilDrinksFirst() {
        Due.sentence("1", "then SOIL drinks, as much as it can;");
        int[] water = {1, 4, 5, 6, 9};
        for (int w : water) {
            GutterGardens x = Due.on("GR5999W0" + w);
            Due.is("what soil left of " + w, x.quarter(0), Math.max(0, w - 5));
            Due.is("soil drank", x.roof(0, 2), Math.min(w, 5));
        }
        GutterGardens dry = Due.on("GR5999");
        dry.quarter(0);
        Due.is("of none: none", dry.roof(0, 2), 0);
        dry.quarter(4);
        Due.is("the rain is there already", dry.roof(0, 2), 4);
        GutterGardens dam = dammed("GR5199W09");
        dam.quarter(0);
        roofIs(dam, 0, 4, 0, 5, 0);
        GutterGardens brim = dammed("GR5191W06");
        Due.is("soil drinks ahead of what goes over the brim", brim.quarter(0), 0);
    }

    private static void allAtOnce() {
        Due.sentence("1", "then, all at once by what stands then,");
        GutterGardens x = soaped("GR0991R0991R9991W09", 9);
        Due.is("nothing goes two roofs down", x.quarter(0), 0);
        roofIs(x, 0, 0, 0, 0, 0);
        roofIs(x, 1, 9, 9, 0, 0);
        roofIs(x, 2, 0, 0, 0, 0);
        x.quarter(0);
        roofIs(x, 2, 9, 9, 0, 0);
        x.quarter(0);
        roofIs(x, 2, 0, 0, 9, 9);
        GutterGardens y = Due.on("GR0999R0191W09W11");
        y.dam(1, true);
        Due.is("what comes in does not go over the brim yet", y.quarter(0), 0);
        roofIs(y, 1, 10, 0, 0, 0);
        Due.is("but then", y.quarter(0), 9);
        GutterGardens z = Due.on("GR0999R0391W02W12");
        Due.is("nor by the gutter", z.quarter(0), 2);
    }

    private static void byTheGutter() {
        Due.sentence("1", "from each ROOF without DAM its GUTTER's WATER goes (all, if that is less),");
        for (int w = 1; w <= 9; w++) {
            GutterGardens x = Due.on("GR0499W0" + w);
            Due.is("of " + w, x.quarter(0), Math.min(4, w));
            Due.is("stays", x.roof(0, 0), Math.max(0, w - 4));
        }
        Due.is("of none", Due.on("GR0499").quarter(0), 0);
        GutterGardens two = Due.on("GR0299R0399W05W15");
        Due.is("each by its own", two.quarter(0), 3);
        roofIs(two, 0, 3, 0, 0, 0);
        roofIs(two, 1, 4, 0, 0, 0);
    }

    private static void noneOverADam() {
        Due.sentence("1", "from one with a DAM none;");
        for (int w = 1; w <= 9; w++) {
            GutterGardens x = dammed("GR0999W0" + w);
            Due.is("of " + w, x.quarter(0), 0);
            Due.is("stays", x.roof(0, 0), w);
            x.dam(0, false);
            Due.is("down with it", x.quarter(0), w);
        }
    }

    private static void aboveTheBrim() {
        Due.sentence("1", "then of what is left on it all above its BRIM goes, too;");
        for (int w = 1; w <= 9; w++) {
            GutterGardens dam = dammed("GR0194W0" + w);
            Due.is("over a dam, of " + w, dam.quarter(0), Math.max(0, w - 4));
            Due.is("over a dam stays", dam.roof(0, 0), Math.min(4, w));
            GutterGardens none = Due.on("GR0194W0" + w);
            Due.is("by gutter and brim, of " + w, none.quarter(0), Math.max(1, w - 4));
            Due.is("stays", none.roof(0, 0), Math.min(4, w - 1));
        }
        GutterGardens least = dammed("GR0191W01");
        Due.is("up to a brim of 1", least.quarter(0), 0);
        Due.is("one more", least.quarter(1), 1);
    }

    private static void soapOnce() {
        Due.sentence("1", "all this goes together (SOAP by all of it, once)");
        GutterGardens x = soaped("GR0192W04", 2);
        Due.is("one by the gutter, one over the brim", x.quarter(0), 2);
        roofIs(x, 0, 2, 1, 0, 0);
        buttIs(x, 2, 1);
        GutterGardens y = soaped("GR2194W09", 9);
        Due.is("what soil drinks is reckoned by itself", y.quarter(0), 3);
        roofIs(y, 0, 4, 4, 2, 2);
        buttIs(y, 3, 3);
        GutterGardens z = soaped("GR1999W03", 2);
        z.quarter(0);
        roofIs(z, 0, 0, 0, 1, 0);
        buttIs(z, 2, 2);
    }

    private static void downToTheButt() {
        Due.sentence("1", "to the next ROOF, from the last one into THE BUTT.");
        GutterGardens x = soaped("GR0999R0999R0999R0999R0999R0999W05", 5);
        for (int roof = 0; roof < 6; roof++) {
            roofIs(x, roof, 5, 5, 0, 0);
            buttIs(x, 0, 0);
            Due.is("from roof " + roof, x.quarter(0), roof == 5 ? 5 : 0);
        }
        buttIs(x, 5, 5);
        GutterGardens more = soaped("GR0199W02", 4);
        more.quarter(0);
        buttIs(more, 1, 2);
        more.quarter(0);
        buttIs(more, 2, 4);
        Due.is("no roofs, no water", new GutterGardens().quarter(9), 0);
    }

    // ---- section 1: acts

    private static void actsAreARow() {
        Due.sentence("1", "ACTS (QUARTERS, PAILS, SOAP put in) are a row");
        GutterGardens x = Due.on("GR0199W09");
        x.quarter(0);
        Due.is("a quarter", x.count(7), 1);
        x.pail(0, 1);
        Due.is("a pail", x.count(7), 2);
        x.soap(0, 1);
        Due.is("soap", x.count(7), 3);
        x.dam(0, true);
        x.keep(0);
        x.seed(5);
        x.summer(0, 1);
        x.gauge(1, 1, 1);
        x.plan(3, 9);
        Due.is("none of these", x.count(7), 3);
    }

    private static void twelveActs() {
        Due.sentence("1", "(12 at most; of more the first one is forgotten);");
        for (int acts = 1; acts <= 14; acts++) {
            GutterGardens x = Due.on("GR0199");
            for (int i = 0; i < acts; i++) x.quarter(1);
            Due.is("in the row", x.count(7), Math.min(acts, 12));
            for (int i = Math.min(acts, 12) - 1; i >= 0; i--) {
                Due.is("undo", x.undo(), i);
                Due.is("one quarter less", x.count(2), i + Math.max(0, acts - 12));
            }
            Due.is("no more", x.undo(), STATE);
            Due.is("what is forgotten stays", x.count(3), Math.max(0, acts - 12));
        }
        ofEachKind();
        GutterGardens y = Due.on("GR0199");
        for (int i = 0; i < 12; i++) y.quarter(1);
        y.undo();
        y.quarter(2);
        Due.is("twelve again", y.count(7), 12);
        for (int i = 0; i < 12; i++) y.undo();
        Due.is("none is forgotten", y.count(2), 0);
    }

    private static void ofEachKind() {
        GutterGardens x = Due.on("GR0199R0199W09W19");
        for (int i = 1; i <= 6; i++) {
            x.pail(0, 1);
            Due.is("soap, too, is one of them", x.soap(1, 1), i);
            Due.is("pails and soap", x.count(7), 2 * i);
        }
        Due.is("a pail is done when the row is full", x.pail(0, 3), 0);
        Due.is("soap is put in when the row is full", x.soap(1, 9), 15);
        Due.is("twelve", x.count(7), 12);
        for (int i = 11; i >= 0; i--) x.undo();
        roofIs(x, 0, 8, 0, 0, 0);
        roofIs(x, 1, 9, 1, 0, 0);
    }

    private static void lastActIsUndone() {
        Due.sentence("1", "the last one can be undone (WATER, SOAP, what was GOT, THE BUTT, "
            + "how many QUARTERS there were are as they were;");
        GutterGardens x = Due.on("GR2399R1199W09W14");
        x.soap(0, 9);
        x.soap(1, 4);
        x.quarter(1);
        roofIs(x, 0, 5, 5, 2, 1);
        roofIs(x, 1, 6, 6, 1, 0);
        buttIs(x, 1, 1);
        x.quarter(9);
        x.undo();
        roofIs(x, 0, 5, 5, 2, 1);
        roofIs(x, 1, 6, 6, 1, 0);
        buttIs(x, 1, 1);
        Due.is("quarters", x.count(2), 1);
        x.pail(1, 6);
        x.undo();
        roofIs(x, 1, 6, 6, 1, 0);
        x.soap(1, 9);
        x.undo();
        roofIs(x, 1, 6, 6, 1, 0);
        x.undo();
        roofIs(x, 0, 9, 9, 0, 0);
        roofIs(x, 1, 4, 4, 0, 0);
        buttIs(x, 0, 0);
        Due.is("quarters", x.count(2), 0);
    }

    private static void damsStay() {
        Due.sentence("1", "DAMS stay).");
        GutterGardens x = dammed("GR0999R0999W09");
        x.quarter(0);
        x.dam(0, false);
        x.dam(1, true);
        x.undo();
        Due.is("as they are, not as they were", x.count(6), 2);
        Due.is("water as it was", x.roof(0, 0), 9);
        Due.is("dams are no acts", x.undo(), STATE);
        x.quarter(0);
        Due.is("by the dams of now", x.roof(1, 0), 9);
    }

    private static void spoiltSoap() {
        Due.sentence("1", "SOAP that SOIL drank is SPOILT there.");
        GutterGardens x = soaped("GR3199R0199W09", 9);
        x.quarter(0);
        roofIs(x, 0, 5, 5, 3, 3);
        roofIs(x, 1, 1, 1, 0, 0);
        x.quarter(0);
        roofIs(x, 0, 1, 1, 6, 6);
        x.undo();
        roofIs(x, 0, 5, 5, 3, 3);
        x.undo();
        roofIs(x, 0, 9, 9, 0, 0);
        GutterGardens y = soaped("GR0199W09", 9);
        y.pail(0, 3);
        y.quarter(0);
        roofIs(y, 0, 5, 5, 0, 0);
    }

    // ---- promises 6 to 11

    private static void roofAnswers() {
        Due.sentence("P6", "Of a ROOF WATER (what = 0), SOAP (1), what it has GOT (2), SPOILT SOAP (3), whether it has "
            + "ENOUGH (4: 1, 0), a DAM (5: 1, 0), its SOIL (6), GUTTER (7), what its PLANTS want (8), BRIM (9).");
        GutterGardens x = Due.on("GR2198R3427W09W17");
        x.soap(0, 9);
        x.soap(1, 7);
        x.quarter(0);
        x.dam(1, true);
        int[][] due = {{6, 6, 2, 2, 0, 0, 2, 1, 9, 8}, {1, 1, 3, 3, 1, 1, 3, 4, 2, 7}};
        for (int roof = 0; roof < 2; roof++) {
            for (int what = 0; what <= 9; what++) Due.is("roof " + roof + " " + what, x.roof(roof, what), due[roof][what]);
        }
    }

    private static void damAnswers() {
        Due.sentence("P7", "A DAM is there, or not: 1 if that is otherwise than it was, 0.");
        GutterGardens x = Due.on("GR0199R0199R0199R0199R0199R0199");
        boolean[] is = {false, true, true, false, false, true};
        int[] due = {0, 1, 0, 1, 0, 1};
        for (int roof = 0; roof < 6; roof++) {
            for (int i = 0; i < is.length; i++) {
                Due.is("dam " + roof + " " + is[i], x.dam(roof, is[i]), due[i]);
                Due.is("bits", x.count(6), (1 << roof) - 1 + (is[i] ? 1 << roof : 0));
            }
        }
    }

    private static void quarterAnswers() {
        Due.sentence("P8", "A QUARTER: how much WATER came into THE BUTT.");
        GutterGardens x = Due.on("GR0199W03");
        Due.is("one", x.quarter(0), 1);
        Due.is("not what is in it", x.quarter(0), 1);
        Due.is("the last", x.quarter(0), 1);
        Due.is("none", x.quarter(0), 0);
        buttIs(x, 3, 0);
        Due.is("quarters", x.count(2), 4);
    }

    private static void pailTakesAway() {
        Due.sentence("P9", "A PAIL: n WATER (1 to 9) is taken away, with its SOAP: how much SOAP.");
        for (int n = 1; n <= 9; n++) {
            GutterGardens x = soaped("GR9999R0199W09W11", 9);
            Due.is("pail " + n, x.pail(0, n), n);
            roofIs(x, 0, 9 - n, 9 - n, 0, 0);
            roofIs(x, 1, 1, 0, 0, 0);
            buttIs(x, 0, 0);
        }
        Due.is("without soap", Due.on("GR0199W09").pail(0, 9), 0);
        Due.is("0", Due.on("GR0199W09").pail(0, 0), OUTSIDE);
        Due.is("10", Due.on("GR0199W09").pail(0, 10), OUTSIDE);
    }

    private static void pailOfLess() {
        Due.sentence("P9", "STATE: there is less.");
        for (int w = 0; w <= 9; w++) {
            for (int n = 1; n <= 9; n++) {
                GutterGardens x = Due.on(w == 0 ? "GR0199" : "GR0199W0" + w);
                Due.is("pail " + n + " of " + w, x.pail(0, n), n > w ? STATE : 0);
                Due.is("water", x.roof(0, 0), n > w ? w : w - n);
                Due.is("acts", x.count(7), n > w ? 0 : 1);
            }
        }
    }

    private static void soapPutIn() {
        Due.sentence("P10", "n SOAP (1 to 9) is put in: how much there is.");
        for (int n = 1; n <= 9; n++) {
            GutterGardens x = Due.on("GR0199R0199W01W11");
            Due.is("soap " + n, x.soap(1, n), n);
            Due.is("as much again", x.soap(1, n), 2 * n);
            roofIs(x, 1, 1, 2 * n, 0, 0);
            roofIs(x, 0, 1, 0, 0, 0);
        }
        Due.is("0", Due.on("GR0199W01").soap(0, 0), OUTSIDE);
        Due.is("10", Due.on("GR0199W01").soap(0, 10), OUTSIDE);
    }

    private static void soapWithoutWater() {
        Due.sentence("P10", "STATE: there is no WATER;");
        GutterGardens x = Due.on("GR0199R0199W02");
        Due.is("there never was any", x.soap(1, 1), STATE);
        Due.is("two", x.soap(0, 1), 1);
        x.pail(0, 1);
        Due.is("one is enough", x.soap(0, 9), 10);
        x.pail(0, 1);
        Due.is("all is taken away", x.soap(0, 1), STATE);
        roofIs(x, 0, 0, 0, 0, 0);
    }

    private static void soapToNinetyNine() {
        Due.sentence("P10", "FULL: there would be more than 99.");
        for (int n = 1; n <= 9; n++) {
            GutterGardens x = withSoap(99 - n);
            Due.is("to 99 by " + n, x.soap(0, n), 99);
            Due.is("to 100", x.soap(0, 1), FULL);
            Due.is("99 stay", x.roof(0, 1), 99);
            GutterGardens y = withSoap(100 - n);
            Due.is("to 100 by " + n, y.soap(0, n), FULL);
            Due.is("nothing of it is put in", y.roof(0, 1), 100 - n);
        }
        GutterGardens down = Due.on("GR0999R0199W01W19");
        for (int i = 0; i < 11; i++) {
            down.soap(0, 9);
            down.soap(1, 9);
        }
        down.quarter(0);
        Due.is("what comes down is not refused", down.roof(1, 1), 99 - 11 + 99);
        Due.is("but what is put in", down.soap(1, 1), FULL);
    }

    private static GutterGardens withSoap(int soap) {
        GutterGardens x = Due.on("GR0199W01");
        for (int left = soap; left > 0; left -= 9) x.soap(0, Math.min(9, left));
        Due.is("soap", x.roof(0, 1), soap);
        return x;
    }

    private static void undoAnswers() {
        Due.sentence("P11", "The last ACT is undone: how many are left.");
        GutterGardens x = Due.on("GR0199W09");
        for (int i = 0; i < 4; i++) x.soap(0, 1);
        x.pail(0, 4);
        Due.is("the pail", x.undo(), 4);
        roofIs(x, 0, 9, 4, 0, 0);
        for (int left = 3; left >= 0; left--) {
            Due.is("soap", x.undo(), left);
            Due.is("acts", x.count(7), left);
            roofIs(x, 0, 9, left, 0, 0);
        }
    }

    private static void undoOfNone() {
        Due.sentence("P11", "STATE: there is none.");
        GutterGardens x = Due.on("GR0199W09");
        Due.is("none yet", x.undo(), STATE);
        x.pail(0, 10);
        x.pail(1, 1);
        Due.is("what is refused is none", x.undo(), STATE);
        x.quarter(0);
        Due.is("one", x.undo(), 0);
        Due.is("no more", x.undo(), STATE);
        roofIs(x, 0, 9, 0, 0, 0);
        Due.is("a roof there is not", x.roof(1, 0), UNKNOWN);
    }
}
