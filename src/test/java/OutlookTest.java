/** Promises 12 to 18. */
public final class OutlookTest {
    private static final String TWO = "GR2356R1424W09W13";
    private static final int OUTSIDE = GutterGardens.OUTSIDE;
    private static final int[] NUMBERS = {Integer.MIN_VALUE, -1, 0, 1, 3, 4, 6, 7, 9, 10, 20, 21, Integer.MAX_VALUE};

    public static void main(String[] args) {
        got();
        butt();
        damsThatKeepWater();
        fewestAndLeast();
        theDamsNowDoNotMatter();
        plan();
        planAtAsksForItself();
        planOfManyRoofs();
        each();
        outside();
        nothingIsChanged();
        noRoofs();
        Due.end();
    }

    private static void got() {
        GutterGardens x = Due.on(TWO);
        Due.is("got now", x.got(0, 0, 9), 0);
        Due.is("got 0 behind one", x.got(0, 1, 4), 2);
        Due.is("got 1 behind one", x.got(1, 1, 4), 1);
        Due.is("got 0 behind twenty", x.got(0, 20, 9), 40);
        Due.is("got 0 without rain", x.got(0, 20, 0), 4);
        x.quarter(4);
        Due.is("what was got counts", x.got(0, 2, 4), 6);
        Due.is("behind none", x.got(0, 0, 4), 2);
        GutterGardens y = Due.on("GR1939W03");
        Due.is("without a dam", y.got(0, 3, 0), 1);
        y.dam(0, true);
        Due.is("dams as now", y.got(0, 3, 0), 3);
        Due.is("no such roof", y.got(1, 0, 0), GutterGardens.UNKNOWN);
        Due.is("UNKNOWN is ahead of OUTSIDE", y.got(-1, 21, 10), GutterGardens.UNKNOWN);
    }

    private static void butt() {
        GutterGardens x = Due.on(TWO);
        x.soap(0, 9);
        x.soap(1, 5);
        Due.is("now", x.butt(0, 9, false), 0);
        Due.is("water", x.butt(1, 4, false), 4);
        Due.is("soap", x.butt(1, 4, true), 3);
        x.quarter(4);
        Due.is("what was there counts", x.butt(0, 0, false), 4);
        Due.is("soap there counts", x.butt(0, 0, true), 3);
        Due.is("behind one more", x.butt(1, 0, false), 8);
        Due.is("a dry roof", Due.on("GR0191").butt(20, 0, false), 0);
        GutterGardens y = Due.on("GR0999W05");
        y.dam(0, true);
        Due.is("dams as now", y.butt(20, 0, false), 0);
    }

    private static void damsThatKeepWater() {
        GutterGardens x = Due.on("GR1939W03");
        Due.is("dams for 3", x.dams(3, 0), 1);
        Due.is("enough for 3", x.enough(3, 0), 1);
        Due.is("dams for 2", x.dams(2, 0), 0);
        Due.is("enough for 2", x.enough(2, 0), 0);
        Due.is("rain needs no dam", x.dams(3, 1), 0);
        Due.is("rain is enough", x.enough(3, 1), 1);
        Due.is("each for 3", x.each(3, 0), 1);
        Due.is("each for 1", x.each(1, 0), 0);
        Due.is("each in rain", x.each(3, 1), 0);
        Due.is("plan for 3", x.plan(3, 0), 1);
        planIs(x, 3, 0, 1, 1, 0);
        Due.is("plan for 2", x.plan(2, 0), 0);
        planIs(x, 2, 0, 0, 0);
        x.quarter(3);
        Due.is("what was got counts", x.enough(2, 1), 1);
    }

    private static void fewestAndLeast() {
        GutterGardens x = Due.on("GR1929R1929W03");
        Due.is("either will do: the least", x.dams(3, 0), 1);
        Due.is("one has enough", x.enough(3, 0), 1);
        Due.is("each", x.each(3, 0), 1);
        Due.is("plan", x.plan(3, 0), 1);
        planIs(x, 3, 0, 0, 2, 0);
        GutterGardens y = Due.on("GR1919R1939R1939W13W23");
        Due.is("both are needed", y.dams(3, 0), 6);
        Due.is("two have enough", y.enough(3, 0), 2);
        GutterGardens z = Due.on("GR1929R1919W03");
        Due.is("as many without a dam", z.dams(3, 0), 0);
        Due.is("one", z.enough(3, 0), 1);
        GutterGardens few = Due.on("GR2939R2239R1739W03W13W22");
        Due.is("roofs 0 and 1 would do, but roof 2 does it alone", few.dams(3, 0), 4);
        Due.is("two have enough, too", few.enough(3, 0), 2);
        GutterGardens most = Due.on("GR1939R1939R0101W03W13");
        Due.is("a single one would be fewer, but for fewer roofs", most.dams(3, 0), 3);
        Due.is("all three have enough", most.enough(3, 0), 3);
    }

    private static void theDamsNowDoNotMatter() {
        GutterGardens x = Due.on("GR1939W03");
        x.dam(0, true);
        Due.is("no dam is needed", x.dams(2, 0), 0);
        x.dam(0, false);
        Due.is("one is needed", x.dams(3, 0), 1);
        Due.is("none is there", x.count(6), 0);
    }

    private static void plan() {
        GutterGardens x = Due.on("GR1929R1919W03");
        Due.is("first one, then none", x.plan(3, 0), 2);
        planIs(x, 3, 0, 1, 0, 0);
        Due.is("behind two it can't be", x.plan(2, 0), 1);
        planIs(x, 2, 0, 0, 0);
        Due.is("rain for all", x.plan(2, 9), 2);
        planIs(x, 2, 9, 0, 0);
        GutterGardens four = Due.on("GR1929R1929R1929R1929W03W13W23W33");
        Due.is("four roofs", four.plan(3, 0), 4);
        planIs(four, 3, 0, 1, 0, 0);
        Due.is("all keep it", four.plan(2, 0), 4);
        planIs(four, 2, 0, 15, 0);
        GutterGardens last = Due.on("GR0101R0101R0101R1929W33");
        Due.is("the last of four needs it", last.plan(3, 0), 4);
        planIs(last, 3, 0, 8, 0, 0);
    }

    private static void planAtAsksForItself() {
        Due.is("planAt by itself", Due.on("GR1929R1929W03").planAt(3, 0, 1), 2);
        GutterGardens x = Due.on("GR1939W03");
        Due.is("plan for 2", x.plan(2, 0), 0);
        Due.is("planAt of another one", x.planAt(3, 0, 1), 1);
        x.quarter(9);
        Due.is("planAt as things stand", x.planAt(3, 0, 1), 0);
    }

    private static void planIs(GutterGardens x, int n, int rain, int... sets) {
        Due.is("as many sets as quarters", sets.length, n);
        for (int i = 0; i < n; i++) Due.is("plan for " + n + " at " + i, x.planAt(n, rain, i), sets[i]);
        int[] none = {Integer.MIN_VALUE, -1, n, Integer.MAX_VALUE};
        for (int i : none) Due.is("no quarter " + i, x.planAt(n, rain, i), GutterGardens.NONE);
    }

    private static void planOfManyRoofs() {
        GutterGardens x = Due.on("GR0101R0101R0101R0101R0101");
        Due.is("five roofs", x.plan(1, 0), GutterGardens.STATE);
        Due.is("five roofs", x.planAt(3, 9, 0), GutterGardens.STATE);
        Due.is("OUTSIDE is ahead of STATE", x.plan(4, 0), OUTSIDE);
        Due.is("OUTSIDE is ahead of STATE", x.planAt(1, 10, 0), OUTSIDE);
        Due.is("no plan, no quarter of it", x.planAt(1, 0, 1), GutterGardens.STATE);
        Due.is("four roofs", Due.on("GR0101R0101R0101R0101").plan(1, 0), 4);
    }

    private static void each() {
        GutterGardens x = Due.on("GR1929R1919W03");
        Due.is("roof 0 keeps it for itself", x.each(3, 0), 1);
        GutterGardens y = Due.on("GR0999R2999R2999W09");
        Due.is("the first one has no soil", y.each(6, 0), 2);
        GutterGardens z = Due.on("GR2999R2999W09W19");
        Due.is("both", z.each(3, 0), 3);
        Due.is("one quarter", z.each(1, 0), 0);
        Due.is("rain that is enough for all", z.each(6, 9), 0);
        z.dam(1, true);
        Due.is("dams as now do not matter", z.each(1, 0), 0);
        Due.is("no more than it wants, it does not ask", Due.on("GR2909W09").each(3, 0), 1);
    }

    private static void outside() {
        GutterGardens x = Due.on(TWO);
        for (int n : NUMBERS) {
            for (int rain : NUMBERS) {
                boolean rains = rain >= 0 && rain <= 9;
                boolean to20 = rains && n >= 0 && n <= 20;
                boolean to6 = rains && n >= 1 && n <= 6;
                boolean to3 = rains && n >= 1 && n <= 3;
                String with = " with " + n + " " + rain;
                Due.that("got" + with, (x.got(0, n, rain) == OUTSIDE) != to20);
                Due.that("butt" + with, (x.butt(n, rain, false) == OUTSIDE) != to20);
                Due.that("butt, soap" + with, (x.butt(n, rain, true) == OUTSIDE) != to20);
                Due.that("dams" + with, (x.dams(n, rain) == OUTSIDE) != to6);
                Due.that("enough" + with, (x.enough(n, rain) == OUTSIDE) != to6);
                Due.that("each" + with, (x.each(n, rain) == OUTSIDE) != to6);
                Due.that("plan" + with, (x.plan(n, rain) == OUTSIDE) != to3);
                Due.that("planAt" + with, (x.planAt(n, rain, 0) == OUTSIDE) != to3);
                Due.that("planAt none" + with, x.planAt(n, rain, 99) == (to3 ? GutterGardens.NONE : OUTSIDE));
            }
        }
    }

    private static void nothingIsChanged() {
        GutterGardens x = Due.on(TWO);
        x.soap(0, 9);
        x.dam(1, true);
        x.got(0, 20, 9);
        x.butt(20, 9, true);
        x.dams(6, 9);
        x.enough(6, 9);
        x.plan(3, 9);
        x.planAt(3, 9, 1);
        x.each(6, 9);
        int[] counts = {17, 2, 0, 0, 0, 0, 2, 1, 0, 12};
        for (int what = 0; what < 10; what++) Due.is("count " + what, x.count(what), counts[what]);
        int[] roof = {9, 9, 0, 0, 0, 0};
        for (int what = 0; what < 6; what++) Due.is("roof 0 " + what, x.roof(0, what), roof[what]);
    }

    private static void noRoofs() {
        GutterGardens x = new GutterGardens();
        Due.is("butt", x.butt(20, 9, false), 0);
        Due.is("dams", x.dams(6, 9), 0);
        Due.is("enough", x.enough(6, 9), 0);
        Due.is("plan", x.plan(3, 9), 0);
        planIs(x, 3, 9, 0, 0, 0);
        Due.is("each", x.each(6, 9), 0);
        Due.is("got", x.got(0, 1, 1), GutterGardens.UNKNOWN);
    }
}
