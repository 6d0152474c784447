/** Promises 26 to 28. */
public final class SlotsTest {
    public static void main(String[] args) {
        keepAndAgain();
        twoSlots();
        refused();
        count();
        Due.end();
    }

    private static void keepAndAgain() {
        GutterGardens x = Due.on("GR2356R1424W09W13");
        x.soap(0, 9);
        x.soap(1, 5);
        x.quarter(4);
        x.dam(0, true);
        Due.is("keep", x.keep(1), 1);
        Due.is("acts stay in the row", x.count(7), 3);
        x.quarter(9);
        x.quarter(9);
        x.dam(0, false);
        x.dam(1, true);
        x.pail(1, 4);
        x.seed(77);
        x.gauge(1, 0, 0);
        x.write(3, 0);
        Due.is("again", x.again(1), 1);
        int[] counts = {20, 2, 1, 4, 3, 0, 1, 0, 1, 13};
        for (int what = 0; what < 10; what++) Due.is("count " + what, x.count(what), counts[what]);
        int[][] roofs = {{6, 5, 2, 1, 0, 1}, {7, 5, 1, 0, 0, 0}};
        for (int roof = 0; roof < 2; roof++) {
            for (int what = 0; what < 6; what++) {
                Due.is("roof " + roof + " " + what, x.roof(roof, what), roofs[roof][what]);
            }
        }
        Due.is("no act to undo", x.undo(), GutterGardens.STATE);
        Due.is("the seed stays", x.seed(0), 77);
        x.quarter(0);
        Due.is("undo goes back to what was kept", x.undo(), 0);
        Due.is("one quarter", x.count(2), 1);
        x.quarter(0);
        Due.is("again and again", x.again(1), 1);
    }

    private static void twoSlots() {
        GutterGardens x = Due.on("GR0191W05");
        Due.is("keep none", x.keep(0), 0);
        x.quarter(0);
        x.quarter(0);
        Due.is("keep two", x.keep(1), 2);
        Due.is("again none", x.again(0), 0);
        Due.is("water then", x.roof(0, 0), 5);
        Due.is("again two", x.again(1), 2);
        Due.is("water of these: over the brim", x.roof(0, 0), 0);
        x.quarter(3);
        Due.is("kept anew", x.keep(0), 3);
        x.quarter(3);
        Due.is("again three", x.again(0), 3);
    }

    private static void refused() {
        GutterGardens x = Due.on("GR0191W05");
        int[] unknown = {Integer.MIN_VALUE, -1, 2, Integer.MAX_VALUE};
        for (int slot : unknown) {
            Due.is("keep " + slot, x.keep(slot), GutterGardens.UNKNOWN);
            Due.is("again " + slot, x.again(slot), GutterGardens.UNKNOWN);
        }
        x.quarter(0);
        Due.is("none kept", x.again(0), GutterGardens.STATE);
        x.keep(0);
        Due.is("none kept there", x.again(1), GutterGardens.STATE);
        Due.is("nothing is changed", x.count(7), 1);
        Due.is("the act can be undone", x.undo(), 0);
    }

    private static void count() {
        GutterGardens x = Due.on("GR1119R1929W04W13");
        x.soap(1, 9);
        x.quarter(1);
        x.dam(1, true);
        x.gauge(1, 1, 1);
        int[] counts = {17, 2, 1, 3, 7, 1, 2, 2, 1, 4};
        for (int what = 0; what < 10; what++) Due.is("count " + what, x.count(what), counts[what]);
        int[] outside = {Integer.MIN_VALUE, -1, 10, Integer.MAX_VALUE};
        for (int what : outside) Due.is("count " + what, x.count(what), GutterGardens.OUTSIDE);
    }
}
