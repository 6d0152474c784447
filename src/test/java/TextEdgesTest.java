/** The edges that the document names of texts and streets: section 1 up to WATER, promises 1 to 5. */
public final class TextEdgesTest {
    private static final int NONE = GutterGardens.NONE;
    private static final int STATE = GutterGardens.STATE;
    private static final int FULL = GutterGardens.FULL;
    private static final String SIX = "GR1191R2281R3371R4461R5551R6641";
    private static final String LETTERS_AND_DIGITS = "GRW0123456789";

    public static void main(String[] args) {
        fortyBytes();
        partsNoneOrMore();
        sixRoofs();
        numberedAsTold();
        soil();
        gutter();
        plants();
        brim();
        waterOnRoofToldAhead();
        notToldSoTwice();
        waterStands();
        firstByteAtFault();
        lengthSetAside();
        onlyNotAtItsEnd();
        noFault();
        theStreetAtFirst();
        newObject();
        lowestBytes();
        highestFirst();
        writeOneToEight();
        writeFull();
        wipe();
        faultAnswers();
        textStays();
        streetClears();
        streetLeaves();
        streetRoofs();
        streetAtFault();
        Due.end();
    }

    // ---- section 1: the text

    private static void fortyBytes() {
        Due.sentence("1", "THE TEXT is bytes (40 at most).");
        GutterGardens x = new GutterGardens();
        Due.is("empty", x.count(0), 0);
        for (int i = 1; i <= 40; i++) Due.is("byte " + i, x.write(1, i % 2 == 0 ? 255 : 0), i);
        Due.is("a 41st", x.write(1, 0), FULL);
        Due.is("40 stay", x.count(0), 40);
    }

    private static void partsNoneOrMore() {
        Due.sentence("1", "A STREET is a TEXT: G, then PARTS, none or more:");
        goesOnBy("", "G", NONE);
        goesOnBy("G", "R", 2);
        Due.is("none", Due.on("G").count(1), 0);
        Due.is("one", Due.on("GR1111").count(1), 1);
        Due.is("two", Due.on("GR1111W01").count(1), 1);
        Due.is("nine, as many as have room", Due.faultOf(SIX + "W01W11W21"), NONE);
    }

    private static void sixRoofs() {
        Due.sentence("1", "Rsctb a ROOF (6 at most,");
        for (int roofs = 0; roofs <= 6; roofs++) {
            String text = SIX.substring(0, 1 + 5 * roofs);
            Due.is("roofs", Due.on(text).count(1), roofs);
            Due.is("one more", Due.faultOf(text + "R1"), roofs < 6 ? 3 + 5 * roofs : 31);
        }
        goesOnBy(SIX, "W", 32);
        goesOnBy(SIX.substring(0, 26), "RW", 27);
    }

    private static void numberedAsTold() {
        Due.sentence("1", "numbered as they are told, the highest first):");
        GutterGardens x = Due.on(SIX);
        for (int roof = 0; roof < 6; roof++) Due.is("soil of roof " + roof, x.roof(roof, 6), roof + 1);
        GutterGardens y = Due.on("GR0999R0999W09");
        y.quarter(0);
        Due.is("water goes down from roof 0", y.roof(0, 0), 0);
        Due.is("to roof 1", y.roof(1, 0), 9);
        GutterGardens z = Due.on("GR0999R0999W19");
        z.quarter(0);
        Due.is("and none goes up", z.roof(0, 0), 0);
    }

    private static void soil() {
        Due.sentence("1", "its SOIL drinks s a QUARTER (0 to 9),");
        goesOnBy("GR", "0123456789", 3);
        goesOnBy("GR0999R", "0123456789", 8);
        for (int s = 0; s <= 9; s++) {
            GutterGardens x = Due.on("GR" + s + "999W09");
            Due.is("soil", x.roof(0, 6), s);
            x.quarter(0);
            Due.is("drinks", x.roof(0, 2), s);
        }
    }

    private static void gutter() {
        Due.sentence("1", "its GUTTER lets c down (1 to 9),");
        goesOnBy("GR0", "123456789", 4);
        goesOnBy("GR9", "123456789", 4);
        for (int c = 1; c <= 9; c++) {
            GutterGardens x = Due.on("GR0" + c + "99W09");
            Due.is("gutter", x.roof(0, 7), c);
            Due.is("lets down", x.quarter(0), c);
        }
    }

    private static void plants() {
        Due.sentence("1", "its PLANTS want t (0 to 9),");
        goesOnBy("GR01", "0123456789", 5);
        goesOnBy("GR99", "0123456789", 5);
        for (int t = 0; t <= 9; t++) {
            GutterGardens x = Due.on("GR91" + t + "1");
            Due.is("want", x.roof(0, 8), t);
            x.quarter(Math.max(0, t - 1));
            Due.is("one less is not enough", x.roof(0, 4), t == 0 ? 1 : 0);
            x.quarter(1);
            Due.is("enough", x.roof(0, 4), 1);
        }
    }

    private static void brim() {
        Due.sentence("1", "its BRIM is b (1 to 9)");
        goesOnBy("GR010", "123456789", NONE);
        goesOnBy("GR999", "123456789", NONE);
        for (int b = 1; b <= 9; b++) {
            GutterGardens x = Due.on("GR010" + b + "W09");
            Due.is("brim", x.roof(0, 9), b);
            x.dam(0, true);
            Due.is("over it", x.quarter(0), 9 - b);
        }
    }

    private static void waterOnRoofToldAhead() {
        Due.sentence("1", "Wiw on ROOF i (told ahead,");
        Due.is("on none", Due.faultOf("GW"), 1);
        for (int roofs = 1; roofs <= 6; roofs++) {
            goesOnBy(SIX.substring(0, 1 + 5 * roofs) + "W", "012345".substring(0, roofs), 3 + 5 * roofs);
        }
        Due.is("told behind is not ahead", Due.faultOf("GR1111W13R1111"), 7);
    }

    private static void notToldSoTwice() {
        Due.sentence("1", "not told so twice)");
        goesOnBy("GR1111R1111W04W", "1", 16);
        goesOnBy("GR1111R1111W14W", "0", 16);
        goesOnBy("GR1111W04R1111W", "1", 16);
        goesOnBy("GR1111R1111W04W14", "R", 18);
        goesOnBy("GR1111W04", "R", 10);
        goesOnBy(SIX.substring(0, 21) + "W01W11W21W31", "R", 34);
    }

    private static void waterStands() {
        Due.sentence("1", "w WATER stands at first (1 to 9; else 0)");
        goesOnBy("GR1111W0", "123456789", NONE);
        goesOnBy("GR1111R1111W01W1", "123456789", NONE);
        for (int w = 1; w <= 9; w++) {
            GutterGardens x = Due.on("GR1111R1111W1" + w);
            Due.is("as told", x.roof(1, 0), w);
            Due.is("else 0", x.roof(0, 0), 0);
            Due.is("on all", x.count(9), w);
        }
    }

    // ---- section 1: the fault

    private static void firstByteAtFault() {
        Due.sentence("1", "FAULT: the place (from 0 on) of the first byte by which THE TEXT can be no STREET, "
            + "whatever came behind it");
        Due.is("at 0", Due.faultOf("XGX"), 0);
        Due.is("the first of two", Due.faultOf("GXR0X11"), 1);
        Due.is("what is right behind it mends nothing", Due.faultOf("GR0011"), 3);
        Due.is("the byte itself, not its PART", Due.faultOf("GR111X"), 5);
        Due.is("behind a whole street", Due.faultOf("GR1111X"), 6);
        Due.is("W when each roof has its water", Due.faultOf("GR1111W01W"), 9);
        Due.is("not W while one has none", Due.faultOf("GR1111R1111W01W"), 15);
        Due.is("the seventh R", Due.faultOf(SIX + "R"), 31);
        Due.is("the last byte of 40", Due.faultOf(SIX + "W01W11W2X"), 39);
    }

    private static void lengthSetAside() {
        Due.sentence("1", "(its length set aside);");
        String open = SIX.substring(0, 26) + "W01W11W21W31";
        Due.is("no byte has room behind it, and it is not at its end", Due.faultOf(open + "R5"), 40);
        Due.is("W, too", Due.faultOf(open + "W4"), 40);
        Due.is("a roof that has no room is no fault at its R", Due.faultOf(open + "R"), 39);
        Due.is("but 40 bytes can be a street", Due.faultOf(SIX + "W01W11W21"), NONE);
    }

    private static void onlyNotAtItsEnd() {
        Due.sentence("1", "its length, if it is only not at its end;");
        String whole = SIX + "W03W24W59";
        for (int length = 0; length <= 40; length++) {
            boolean isEnd = length == 40 || length == 34 || length == 37 || length % 5 == 1 && length <= 31;
            String text = whole.substring(0, length);
            Due.is(text, Due.faultOf(text), isEnd ? NONE : length);
        }
    }

    private static void noFault() {
        Due.sentence("1", "NONE: none.");
        String[] streets = {"G", "GR0101", "GR9999", "GR0101W01", "GR9999W09", SIX, "GR0101W01R0101W11"};
        for (String text : streets) Due.is(text, Due.faultOf(text), -9);
    }

    private static void theStreetAtFirst() {
        Due.sentence("1", "At first THE STREET is G.");
        GutterGardens x = new GutterGardens();
        Due.is("roofs", x.count(1), 0);
        Due.is("though the text is empty", x.fault(), 0);
        Due.is("a quarter on it", x.quarter(9), 0);
        Due.is("the butt is empty", x.count(3), 0);
        Due.is("sets of dams", x.fits(), 1);
        Due.is("roof 0", x.roof(0, 0), GutterGardens.UNKNOWN);
    }

    // ---- promises 1 to 5

    private static void newObject() {
        Due.sentence("P1", "No roofs.");
        GutterGardens x = new GutterGardens();
        for (int what = 0; what <= 9; what++) Due.is("count " + what, x.count(what), 0);
        for (int roof = -1; roof <= 6; roof++) Due.is("roof", x.roof(roof, 0), GutterGardens.UNKNOWN);
        Due.on(SIX);
        Due.is("another object has roofs of its own", x.count(1), 0);
    }

    private static void lowestBytes() {
        Due.sentence("P2", "n bytes (1 to 8) of v, the lowest n,");
        String text = "GR1234W0";
        for (int n = 1; n <= 8; n++) {
            long above = n == 8 ? 0 : -1L << (8 * n);
            GutterGardens x = new GutterGardens();
            Due.is("write " + n, x.write(n, packed(text.substring(0, n)) | above), n);
            Due.is("nothing above them comes", x.fault(), n == 1 || n == 6 ? NONE : n);
        }
        GutterGardens y = new GutterGardens();
        y.write(8, Long.MIN_VALUE);
        Due.is("byte 128 is no G", y.fault(), 0);
        Due.is("eight are there", y.count(0), 8);
    }

    private static void highestFirst() {
        Due.sentence("P2", "the highest of these first, come behind THE TEXT: how long it is.");
        GutterGardens x = new GutterGardens();
        Due.is("eight", x.write(8, packed("GR123456")), 8);
        Due.is("5 is too much", x.fault(), 6);
        x.wipe();
        Due.is("three", x.write(3, packed("GR1")), 3);
        Due.is("three behind them", x.write(3, packed("234")), 6);
        Due.is("a roof", x.street(), 1);
        for (int what = 6; what <= 9; what++) Due.is("as told", x.roof(0, what), what - 5);
        Due.is("one behind them", x.write(1, 'W'), 7);
        Due.is("two", x.write(2, packed("07")), 9);
        x.street();
        Due.is("water", x.roof(0, 0), 7);
    }

    private static void writeOneToEight() {
        Due.sentence("P2", "n bytes (1 to 8) of v");
        GutterGardens x = new GutterGardens();
        Due.is("0", x.write(0, 71), GutterGardens.OUTSIDE);
        Due.is("1", x.write(1, 71), 1);
        Due.is("8", x.write(8, 71), 9);
        Due.is("9", x.write(9, 71), GutterGardens.OUTSIDE);
        Due.is("nothing of them came", x.count(0), 9);
    }

    private static void writeFull() {
        Due.sentence("P2", "FULL: it would be longer than 40 (nothing comes).");
        for (int n = 1; n <= 8; n++) {
            GutterGardens x = ofLength(41 - n);
            Due.is("to 41 by " + n, x.write(n, 0), FULL);
            Due.is("nothing came", x.count(0), 41 - n);
            GutterGardens y = ofLength(40 - n);
            Due.is("to 40 by " + n, y.write(n, 0), 40);
            Due.is("then one more", y.write(1, 0), FULL);
        }
        GutterGardens z = new GutterGardens();
        Due.text(z, SIX + "W01W11W2");
        z.write(2, packed("45"));
        Due.is("no byte of what is refused came", z.fault(), 39);
        z.write(1, '6');
        z.street();
        Due.is("one has room, still", z.roof(2, 0), 6);
    }

    private static void wipe() {
        Due.sentence("P3", "THE TEXT is empty: how long it was.");
        for (int length = 0; length <= 40; length++) {
            GutterGardens x = ofLength(length);
            Due.is("wipe", x.wipe(), length);
            Due.is("is empty", x.count(0), 0);
            Due.is("wipe again", x.wipe(), 0);
            Due.is("a text again", x.write(1, 'G'), 1);
            Due.is("a street", x.fault(), NONE);
        }
        GutterGardens y = Due.on("GR1234");
        y.wipe();
        Due.is("the street stays", y.count(1), 1);
    }

    private static void faultAnswers() {
        Due.sentence("P4", "FAULT; NONE.");
        GutterGardens x = Due.on("GR1234");
        Due.is("none", x.fault(), NONE);
        Due.is("asked again", x.fault(), NONE);
        x.write(1, 'G');
        Due.is("a fault", x.fault(), 6);
        Due.is("asked again", x.fault(), 6);
        Due.is("the text stays", x.count(0), 7);
        Due.is("the street stays", x.roof(0, 9), 4);
    }

    private static void textStays() {
        Due.sentence("P5", "THE TEXT (that stays as it is) is THE STREET");
        GutterGardens x = new GutterGardens();
        Due.text(x, "GR1111");
        x.street();
        Due.is("its length", x.count(0), 6);
        x.write(5, packed("R2345"));
        Due.is("the street is as it was told", x.count(1), 1);
        Due.is("told on", x.street(), 2);
        Due.is("its first roof", x.roof(0, 6), 1);
        Due.is("its second", x.roof(1, 6), 2);
    }

    private static void streetClears() {
        Due.sentence("P5", "(nothing is GOT, no SOAP, no DAMS, THE BUTT is empty, no ACTS, no QUARTERS, "
            + "what was kept is gone;");
        GutterGardens x = Due.on("GR2199R1199W09W19");
        x.soap(0, 9);
        x.soap(1, 9);
        x.quarter(1);
        x.dam(1, true);
        x.keep(0);
        x.keep(1);
        for (int what = 2; what <= 7; what++) Due.that("there is something of " + what, x.count(what) > 0 || what == 5);
        x.street();
        for (int what = 2; what <= 7; what++) Due.is("count " + what, x.count(what), 0);
        for (int roof = 0; roof < 2; roof++) {
            for (int what = 0; what <= 5; what++) Due.is("roof " + what, x.roof(roof, what), what == 0 ? 9 : 0);
        }
        Due.is("undo", x.undo(), STATE);
        Due.is("again 0", x.again(0), STATE);
        Due.is("again 1", x.again(1), STATE);
    }

    private static void streetLeaves() {
        Due.sentence("P5", "GAUGES, THE SEED stay):");
        GutterGardens x = Due.on("GR1111W02");
        x.gauge(1, 0, 1);
        x.gauge(1, 0, 0);
        x.seed(Long.MIN_VALUE);
        x.street();
        Due.is("gauges", x.count(8), 2);
        Due.is("a third one", x.gauge(1, 1, 1), 3);
        Due.is("the seed", x.seed(0), Long.MIN_VALUE);
    }

    private static void streetRoofs() {
        Due.sentence("P5", "how many ROOFS.");
        for (int roofs = 0; roofs <= 6; roofs++) {
            GutterGardens x = new GutterGardens();
            Due.text(x, SIX.substring(0, 1 + 5 * roofs));
            Due.is("roofs", x.street(), roofs);
            Due.is("fewer ones leave none behind", x.roof(roofs, 0), GutterGardens.UNKNOWN);
            Due.text(x, "G");
            Due.is("none", x.street(), 0);
            Due.is("no roof 0", x.roof(0, 0), GutterGardens.UNKNOWN);
            Due.is("no water", x.count(9), 0);
        }
    }

    private static void streetAtFault() {
        Due.sentence("P5", "STATE: a FAULT.");
        String[] faults = {"", "R", "GG", "GR", "GR1", "GR11", "GR111", "GR01", "GR1111W", "GR1111W0", "GR1111X"};
        for (String text : faults) {
            GutterGardens x = Due.on("GR9876W05");
            Due.text(x, text);
            Due.is("street " + text, x.street(), STATE);
            Due.is("its roof stays", x.roof(0, 6), 9);
            Due.is("its water stays", x.roof(0, 0), 5);
            Due.is("its roofs stay", x.count(1), 1);
        }
    }

    // ---- texts

    /** By which of the 256 bytes a text goes on; its fault is then the one told, and at the byte by any other one. */
    private static void goesOnBy(String begun, String bytes, int then) {
        for (int b = 0; b < 256; b++) {
            GutterGardens x = new GutterGardens();
            Due.text(x, begun);
            x.write(1, b);
            boolean goesOn = b < 128 && bytes.indexOf((char) b) >= 0;
            String shown = LETTERS_AND_DIGITS.indexOf((char) b) >= 0 ? " and " + (char) b : " and byte " + b;
            Due.is("fault of " + begun + shown, x.fault(), goesOn ? then : begun.length());
        }
    }

    private static GutterGardens ofLength(int length) {
        GutterGardens x = new GutterGardens();
        for (int i = 0; i < length; i++) x.write(1, 'W');
        return x;
    }

    private static long packed(String text) {
        long v = 0;
        for (char c : text.toCharArray()) v = v << 8 | c;
        return v;
    }
}
