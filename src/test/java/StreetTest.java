/** Promises 1 to 7. */
public final class StreetTest {
    public static void main(String[] args) {
        newObject();
        write();
        wipe();
        fault();
        longTexts();
        street();
        streetBeginsAnew();
        roof();
        dam();
        Due.end();
    }

    private static void newObject() {
        GutterGardens x = new GutterGardens();
        for (int what = 0; what <= 9; what++) Due.is("new: count " + what, x.count(what), 0);
        Due.is("new: roof", x.roof(0, 0), GutterGardens.UNKNOWN);
        Due.is("new: undo", x.undo(), GutterGardens.STATE);
        Due.is("new: again", x.again(0), GutterGardens.STATE);
        Due.is("new: seed", x.seed(7), 0);
        Due.is("new: fault of the empty text", x.fault(), 0);
        Due.is("new: street of the empty text", x.street(), GutterGardens.STATE);
        Due.is("new: quarter", x.quarter(9), 0);
        Due.is("new: fits", x.fits(), 1);
        Due.is("new: dammed", x.dammed(false), 0);
    }

    private static void write() {
        GutterGardens x = new GutterGardens();
        int[] outside = {0, 9, -1, Integer.MIN_VALUE, Integer.MAX_VALUE};
        for (int n : outside) Due.is("write " + n, x.write(n, 71), GutterGardens.OUTSIDE);
        Due.is("write refused", x.count(0), 0);
        Due.is("write only the lowest byte", x.write(1, 0x5858585858585847L), 1);
        Due.is("G is a street", x.fault(), GutterGardens.NONE);
        Due.is("write four, the highest first", x.write(4, 0x5858585852303130L), 5);
        Due.is("GR010: brim is open", x.fault(), 5);
        Due.is("write one", x.write(1, 0x39), 6);
        Due.is("GR0109", x.fault(), GutterGardens.NONE);
        x.wipe();
        Due.is("write eight", x.write(8, 0x4752393837365730L), 8);
        Due.is("GR9876W0 wants water", x.fault(), 8);
        Due.is("write high bytes", x.write(1, -1), 9);
        Due.is("byte 255 is at fault", x.fault(), 8);
        x.wipe();
        for (int i = 1; i <= 4; i++) Due.is("write " + 8 * i, x.write(8, 0), 8 * i);
        Due.is("write to 39", x.write(7, 0), 39);
        Due.is("write beyond 40", x.write(2, 0), GutterGardens.FULL);
        Due.is("OUTSIDE is ahead of FULL", x.write(9, 0), GutterGardens.OUTSIDE);
        Due.is("nothing came", x.count(0), 39);
        Due.is("write the 40th", x.write(1, 0), 40);
        Due.is("write a 41st", x.write(1, 0), GutterGardens.FULL);
        Due.is("40 stay", x.count(0), 40);
    }

    private static void wipe() {
        GutterGardens x = new GutterGardens();
        Due.is("wipe nothing", x.wipe(), 0);
        x.write(3, 0);
        Due.is("wipe three", x.wipe(), 3);
        Due.is("wipe again", x.wipe(), 0);
        x.write(1, 71);
        Due.is("what comes behind a wipe is first", x.fault(), GutterGardens.NONE);
    }

    private static void fault() {
        faultIs("", 0);
        faultIs("G", GutterGardens.NONE);
        faultIs("g", 0);
        faultIs("R", 0);
        faultIs("GG", 1);
        faultIs("GW", 1);
        faultIs("Gr", 1);
        faultIs("GR", 2);
        faultIs("GR/", 2);
        faultIs("GR:", 2);
        faultIs("GR0", 3);
        faultIs("GR00", 3);
        faultIs("GR0/", 3);
        faultIs("GR0:", 3);
        faultIs("GR01", 4);
        faultIs("GR01/", 4);
        faultIs("GR01:", 4);
        faultIs("GR010", 5);
        faultIs("GR0100", 5);
        faultIs("GR010:", 5);
        faultIs("GR0101", GutterGardens.NONE);
        faultIs("GR9999", GutterGardens.NONE);
        faultIs("GR0101X", 6);
        faultIs("GR0101G", 6);
        faultIs("GR01015", 6);
        faultIs("GR0101W", 7);
        faultIs("GR0101W1", 7);
        faultIs("GR0101W/", 7);
        faultIs("GR0101W0", 8);
        faultIs("GR0101W00", 8);
        faultIs("GR0101W0:", 8);
        faultIs("GR0101W01", GutterGardens.NONE);
        faultIs("GR0101W09", GutterGardens.NONE);
        faultIs("GR0101W09W", 9);
        faultIs("GR0101W09R", 10);
        faultIs("GR0101W09R0101W0", 15);
        faultIs("GR0101W09R0101W2", 15);
        faultIs("GR0101W09R0101W11", GutterGardens.NONE);
        faultIs("GR0101W09R0101W11W", 17);
        faultIs("GR0101R0101W12W", 15);
        faultIs("GR0101R0101W12W1", 15);
        faultIs("GR0101R0101W12W03", GutterGardens.NONE);
    }

    /** The length is set aside: a text can be at fault at its end though no byte would have room behind it. */
    private static void longTexts() {
        String six = "GR0101R0101R0101R0101R0101R0101";
        faultIs(six, GutterGardens.NONE);
        faultIs(six + "R", 31);
        faultIs(six + "W6", 32);
        faultIs(six + "W51", GutterGardens.NONE);
        faultIs(six + "W51W01W31", GutterGardens.NONE);
        faultIs(six.substring(0, 26) + "W01W11W21W31W4", 40);
        faultIs(six.substring(0, 26) + "W01W11W21W31W1", 39);
        faultIs(six.substring(0, 26) + "W01W11W21W3131", 38);
        faultIs("GR0101W01R0101W11R0101W21R0101W31R0101R0", 40);
        faultIs("GR0101W01R0101W11R0101W21R0101W31R0101", GutterGardens.NONE);
        Due.is("six roofs", Due.on(six).count(1), 6);
    }

    private static void faultIs(String text, int want) {
        Due.is("fault of " + text, Due.faultOf(text), want);
        GutterGardens x = new GutterGardens();
        Due.text(x, text);
        int roofs = 0;
        for (int i = 0; i < text.length(); i++) {
            if (text.charAt(i) == 'R') roofs++;
        }
        Due.is("street of " + text, x.street(), want == GutterGardens.NONE ? roofs : GutterGardens.STATE);
        Due.is("text stays", x.count(0), text.length());
    }

    private static void street() {
        GutterGardens x = Due.on("GR1234R5678W19W03");
        int[][] want = {{3, 0, 0, 0, 0, 0, 1, 2, 3, 4}, {9, 0, 0, 0, 0, 0, 5, 6, 7, 8}};
        for (int roof = 0; roof < 2; roof++) {
            for (int what = 0; what < 10; what++) {
                Due.is("roof " + roof + " " + what, x.roof(roof, what), want[roof][what]);
            }
        }
        Due.text(x, "GR1111X");
        Due.is("street at fault", x.street(), GutterGardens.STATE);
        Due.is("its roofs stay", x.count(1), 2);
        Due.is("their soil stays", x.roof(1, 6), 5);
        Due.is("their water stays", x.roof(1, 0), 9);
        Due.text(x, "GR2102");
        Due.is("a text is no street yet", x.roof(0, 6), 1);
        Due.is("one roof", x.street(), 1);
        Due.is("its soil", x.roof(0, 6), 2);
        Due.is("no water told is none", x.roof(0, 0), 0);
        Due.is("there is no second one", x.roof(1, 0), GutterGardens.UNKNOWN);
        Due.is("the text stays", x.count(0), 6);
        x.write(3, 0x573034);
        Due.is("it can be told on", x.street(), 1);
        Due.is("with water", x.roof(0, 0), 4);
        Due.text(x, "G");
        Due.is("no roofs", x.street(), 0);
        Due.is("no water", x.count(9), 0);
    }

    private static void streetBeginsAnew() {
        GutterGardens x = Due.on("GR4123R1912W09");
        x.seed(5);
        x.gauge(1, 0, 3);
        x.dam(1, true);
        x.soap(0, 9);
        x.quarter(9);
        x.quarter(9);
        x.keep(0);
        x.keep(1);
        Due.that("soap is spoilt", x.roof(0, 3) > 0);
        Due.that("the butt holds water", x.count(3) > 0);
        Due.is("street again", x.street(), 2);
        Due.is("got", x.roof(0, 2), 0);
        Due.is("soap", x.roof(0, 1), 0);
        Due.is("spoilt", x.roof(0, 3), 0);
        Due.is("water as told", x.roof(0, 0), 9);
        Due.is("water on the second", x.roof(1, 0), 0);
        int[] cleared = {2, 3, 4, 6, 7};
        for (int what : cleared) Due.is("count " + what, x.count(what), 0);
        Due.is("gauges stay", x.count(8), 1);
        Due.is("kept is gone", x.again(0), GutterGardens.STATE);
        Due.is("kept is gone, too", x.again(1), GutterGardens.STATE);
        Due.is("no act", x.undo(), GutterGardens.STATE);
        Due.is("the seed stays", x.seed(0), 5);
    }

    private static void roof() {
        GutterGardens x = Due.on("GR2139W05");
        Due.is("roof -1", x.roof(-1, 0), GutterGardens.UNKNOWN);
        Due.is("roof 1", x.roof(1, 0), GutterGardens.UNKNOWN);
        Due.is("roof 6", x.roof(6, 0), GutterGardens.UNKNOWN);
        Due.is("UNKNOWN is ahead of OUTSIDE", x.roof(1, 10), GutterGardens.UNKNOWN);
        Due.is("roof most", x.roof(Integer.MAX_VALUE, 0), GutterGardens.UNKNOWN);
        Due.is("roof least", x.roof(Integer.MIN_VALUE, 0), GutterGardens.UNKNOWN);
        Due.is("what -1", x.roof(0, -1), GutterGardens.OUTSIDE);
        Due.is("what 10", x.roof(0, 10), GutterGardens.OUTSIDE);
        Due.is("not enough", x.roof(0, 4), 0);
        x.quarter(0);
        Due.is("got two of three", x.roof(0, 4), 0);
        x.quarter(0);
        Due.is("got", x.roof(0, 2), 4);
        Due.is("enough", x.roof(0, 4), 1);
        Due.is("nothing wanted is enough", Due.on("GR0101").roof(0, 4), 1);
        GutterGardens y = Due.on("GR1115");
        y.quarter(1);
        Due.is("just enough", y.roof(0, 4), 1);
    }

    private static void dam() {
        GutterGardens x = Due.on("GR0191R0191");
        Due.is("dam -1", x.dam(-1, true), GutterGardens.UNKNOWN);
        Due.is("dam 2", x.dam(2, true), GutterGardens.UNKNOWN);
        Due.is("there is none", x.dam(1, false), 0);
        Due.is("dam", x.dam(1, true), 1);
        Due.is("dam again", x.dam(1, true), 0);
        Due.is("bits", x.count(6), 2);
        Due.is("roof 1", x.roof(1, 5), 1);
        Due.is("roof 0", x.roof(0, 5), 0);
        Due.is("both", x.dam(0, true), 1);
        Due.is("bits of both", x.count(6), 3);
        Due.is("down", x.dam(1, false), 1);
        Due.is("bits then", x.count(6), 1);
        Due.is("dams are no acts", x.undo(), GutterGardens.STATE);
    }
}
