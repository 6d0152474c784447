/** Promises 8 to 11. */
public final class ActsTest {
    private static final String TWO = "GR2356R1424W09W13";

    public static void main(String[] args) {
        quarters();
        overADam();
        soapGoesAlong();
        soapIsCutOnce();
        quarterRefused();
        pail();
        soap();
        undo();
        twelveActs();
        refusedIsNoAct();
        Due.end();
    }

    private static void quarters() {
        GutterGardens x = Due.on(TWO);
        Due.is("rain 4", x.quarter(4), 4);
        state(x, "first", 6, 7, 2, 1, 4);
        Due.is("none has enough", x.count(5), 0);
        Due.is("rain 0", x.quarter(0), 4);
        state(x, "second", 1, 5, 4, 2, 8);
        Due.is("roof 1 has enough", x.count(5), 2);
        x.dam(0, true);
        Due.is("rain 9", x.quarter(9), 9);
        state(x, "third", 6, 6, 6, 3, 17);
        Due.is("both have enough", x.count(5), 3);
        Due.is("quarters", x.count(2), 3);
        Due.is("acts", x.count(7), 3);
        Due.is("water", x.count(9), 12);
    }

    private static void state(GutterGardens x, String when, int w0, int w1, int g0, int g1, int butt) {
        Due.is(when + ": water 0", x.roof(0, 0), w0);
        Due.is(when + ": water 1", x.roof(1, 0), w1);
        Due.is(when + ": got 0", x.roof(0, 2), g0);
        Due.is(when + ": got 1", x.roof(1, 2), g1);
        Due.is(when + ": butt", x.count(3), butt);
    }

    private static void overADam() {
        GutterGardens x = Due.on("GR0993W05");
        x.dam(0, true);
        Due.is("over the dam", x.quarter(0), 2);
        Due.is("up to the brim", x.roof(0, 0), 3);
        Due.is("no more", x.quarter(0), 0);
        Due.is("one more", x.quarter(1), 1);
        GutterGardens y = Due.on("GR0993R0191W04W15");
        y.dam(1, true);
        y.quarter(0);
        Due.is("what comes in runs over only the next time", y.roof(1, 0), 5);
        GutterGardens z = Due.on("GR9393W04");
        Due.is("soil drinks it all", z.quarter(5), 0);
        Due.is("nine", z.roof(0, 2), 9);
        Due.is("nothing left", z.roof(0, 0), 0);
    }

    private static void soapGoesAlong() {
        GutterGardens x = Due.on(TWO);
        x.soap(0, 9);
        x.soap(1, 5);
        x.quarter(4);
        Due.is("spoilt 0", x.roof(0, 3), 1);
        Due.is("soap 0", x.roof(0, 1), 5);
        Due.is("spoilt 1", x.roof(1, 3), 0);
        Due.is("soap 1", x.roof(1, 1), 5);
        Due.is("soap in the butt", x.count(4), 3);
    }

    private static void soapIsCutOnce() {
        GutterGardens x = Due.on("GR0192W04");
        x.soap(0, 2);
        Due.is("gutter and brim", x.quarter(0), 2);
        Due.is("one soap goes", x.count(4), 1);
        Due.is("one stays", x.roof(0, 1), 1);
        GutterGardens y = Due.on("GR0999W04");
        y.soap(0, 7);
        y.quarter(0);
        Due.is("all water: all soap", y.count(4), 7);
        GutterGardens z = Due.on("GR9999W04");
        z.soap(0, 7);
        z.quarter(0);
        Due.is("all drunk: all spoilt", z.roof(0, 3), 7);
    }

    private static void quarterRefused() {
        GutterGardens x = Due.on(TWO);
        int[] outside = {-1, 10, Integer.MIN_VALUE, Integer.MAX_VALUE};
        for (int rain : outside) Due.is("rain " + rain, x.quarter(rain), GutterGardens.OUTSIDE);
        state(x, "refused", 9, 3, 0, 0, 0);
        Due.is("no quarter", x.count(2), 0);
        Due.is("no act", x.count(7), 0);
    }

    private static void pail() {
        GutterGardens x = Due.on(TWO);
        x.soap(0, 7);
        Due.is("pail of 4 of 9", x.pail(0, 4), 3);
        Due.is("water", x.roof(0, 0), 5);
        Due.is("soap", x.roof(0, 1), 4);
        Due.is("nothing in the butt", x.count(3), 0);
        Due.is("no soap in the butt", x.count(4), 0);
        Due.is("more than there is", x.pail(0, 6), GutterGardens.STATE);
        Due.is("all", x.pail(0, 5), 4);
        Due.is("no soap left", x.roof(0, 1), 0);
        Due.is("pail 0", x.pail(1, 0), GutterGardens.OUTSIDE);
        Due.is("pail 10", x.pail(1, 10), GutterGardens.OUTSIDE);
        Due.is("pail -3", x.pail(1, -3), GutterGardens.OUTSIDE);
        Due.is("no such roof", x.pail(2, 1), GutterGardens.UNKNOWN);
        Due.is("UNKNOWN is ahead of OUTSIDE", x.pail(-1, 0), GutterGardens.UNKNOWN);
        Due.is("OUTSIDE is ahead of STATE", x.pail(0, 10), GutterGardens.OUTSIDE);
        Due.is("a pail without soap", x.pail(1, 1), 0);
        Due.is("acts", x.count(7), 4);
        Due.is("no quarters", x.count(2), 0);
        GutterGardens y = Due.on("GR0191W09");
        Due.is("pail of 9", y.pail(0, 9), 0);
    }

    private static void soap() {
        GutterGardens x = Due.on("GR0192W01R0191");
        Due.is("soap 0", x.soap(0, 0), GutterGardens.OUTSIDE);
        Due.is("soap 10", x.soap(0, 10), GutterGardens.OUTSIDE);
        Due.is("soap -1", x.soap(0, -1), GutterGardens.OUTSIDE);
        Due.is("no such roof", x.soap(2, 1), GutterGardens.UNKNOWN);
        Due.is("UNKNOWN is ahead of OUTSIDE", x.soap(2, 0), GutterGardens.UNKNOWN);
        Due.is("no water", x.soap(1, 1), GutterGardens.STATE);
        Due.is("OUTSIDE is ahead of STATE", x.soap(1, 10), GutterGardens.OUTSIDE);
        for (int i = 1; i <= 10; i++) Due.is("soap", x.soap(0, 9), 9 * i);
        Due.is("to 98", x.soap(0, 8), 98);
        Due.is("to 100", x.soap(0, 2), GutterGardens.FULL);
        Due.is("98 stay", x.roof(0, 1), 98);
        Due.is("to 99", x.soap(0, 1), 99);
        Due.is("to 100, too", x.soap(0, 1), GutterGardens.FULL);
        Due.is("OUTSIDE is ahead of FULL", x.soap(0, 10), GutterGardens.OUTSIDE);
        x.dam(0, true);
        GutterGardens y = Due.on("GR0999R0119W01W19");
        for (int i = 0; i < 11; i++) {
            y.soap(0, 9);
            y.soap(1, 9);
        }
        y.quarter(0);
        Due.is("more than 99 can come down", y.roof(1, 1), 99 - 11 + 99);
        Due.is("then there is no room", y.soap(1, 1), GutterGardens.FULL);
    }

    private static void undo() {
        GutterGardens x = Due.on(TWO);
        x.soap(0, 9);
        x.soap(1, 5);
        x.quarter(4);
        x.dam(1, true);
        x.quarter(7);
        x.pail(0, 2);
        Due.is("undo the pail", x.undo(), 4);
        Due.is("undo the quarter", x.undo(), 3);
        state(x, "undone", 6, 7, 2, 1, 4);
        Due.is("spoilt soap is as it was", x.roof(0, 3), 1);
        Due.is("soap in the butt", x.count(4), 3);
        Due.is("one quarter", x.count(2), 1);
        Due.is("dams stay", x.count(6), 2);
        Due.is("undo the first quarter", x.undo(), 2);
        state(x, "at first", 9, 3, 0, 0, 0);
        Due.is("no spoilt soap", x.roof(0, 3), 0);
        Due.is("soap 0", x.roof(0, 1), 9);
        Due.is("no quarter", x.count(2), 0);
        Due.is("undo soap", x.undo(), 1);
        Due.is("soap 1", x.roof(1, 1), 0);
        Due.is("undo soap, too", x.undo(), 0);
        Due.is("no soap", x.roof(0, 1), 0);
        Due.is("nothing left", x.undo(), GutterGardens.STATE);
        Due.is("dams stay still", x.count(6), 2);
        x.quarter(4);
        Due.is("an act again", x.count(7), 1);
    }

    private static void twelveActs() {
        GutterGardens x = Due.on("GR0993");
        for (int i = 1; i <= 15; i++) {
            x.quarter(1);
            Due.is("acts in the row", x.count(7), Math.min(i, 12));
        }
        for (int left = 11; left >= 0; left--) Due.is("undo", x.undo(), left);
        Due.is("the first ones are forgotten", x.undo(), GutterGardens.STATE);
        Due.is("three quarters stay", x.count(2), 3);
        Due.is("three water stay", x.count(3), 3);
    }

    private static void refusedIsNoAct() {
        GutterGardens x = Due.on("GR0191R0191W12");
        x.soap(0, 1);
        x.pail(0, 1);
        x.pail(1, 3);
        x.soap(1, 10);
        x.quarter(10);
        Due.is("no acts", x.count(7), 0);
    }
}
