/** Promises 23 to 25. */
public final class LuckTest {
    private static final int OUTSIDE = GutterGardens.OUTSIDE;
    private static final int UNKNOWN = GutterGardens.UNKNOWN;

    public static void main(String[] args) {
        luck();
        luckAsThingsStand();
        luckRefused();
        seed();
        summer();
        summerRefused();
        Due.end();
    }

    private static void luckIs(GutterGardens x, int n, int rain, int tenths, long above, long below) {
        String call = "luck for " + n + " with " + rain + " by " + tenths;
        Due.is(call + ", above", x.luck(0, n, rain, tenths, true), above);
        Due.is(call + ", below", x.luck(0, n, rain, tenths, false), below);
    }

    private static void luck() {
        GutterGardens once = Due.on("GR1911");
        luckIs(once, 2, 5, 3, 51, 100);
        luckIs(once, 8, 5, 3, 94235199, 100000000);
        luckIs(once, 8, 1, 5, 255, 256);
        luckIs(once, 0, 5, 3, 0, 1);
        luckIs(once, 8, 5, 0, 0, 1);
        luckIs(once, 8, 5, 10, 1, 1);
        luckIs(once, 8, 0, 10, 0, 1);
        luckIs(once, 1, 1, 4, 2, 5);
        GutterGardens twice = Due.on("GR1921");
        luckIs(twice, 2, 5, 3, 9, 100);
        luckIs(twice, 2, 5, 5, 1, 4);
        luckIs(twice, 2, 5, 8, 16, 25);
        GutterGardens early = Due.on("GR1129");
        luckIs(early, 2, 5, 3, 3, 10);
        luckIs(Due.on("GR0101"), 0, 0, 0, 1, 1);
        luckIs(Due.on("GR0101"), 8, 9, 3, 1, 1);
    }

    private static void luckAsThingsStand() {
        GutterGardens x = Due.on("GR1929");
        luckIs(x, 2, 5, 3, 9, 100);
        x.dam(0, true);
        luckIs(x, 2, 5, 3, 3, 10);
        x.quarter(1);
        luckIs(x, 2, 5, 3, 51, 100);
        Due.is("nothing is changed", x.count(2), 1);
        Due.is("nor what it got", x.roof(0, 2), 1);
        GutterGardens two = Due.on("GR0999R1911");
        Due.is("roof 1", two.luck(1, 2, 3, 5, true), 3);
        Due.is("roof 1, below", two.luck(1, 2, 3, 5, false), 4);
        Due.is("roof 0", two.luck(0, 2, 3, 5, true), 0);
    }

    private static void luckRefused() {
        GutterGardens x = Due.on("GR1911");
        boolean[] both = {true, false};
        int[] noQuarters = {Integer.MIN_VALUE, -1, 9, Integer.MAX_VALUE};
        int[] noRain = {Integer.MIN_VALUE, -1, 10, Integer.MAX_VALUE};
        int[] noTenths = {Integer.MIN_VALUE, -1, 11, Integer.MAX_VALUE};
        for (boolean upper : both) {
            for (int n : noQuarters) Due.is("n " + n, x.luck(0, n, 0, 0, upper), OUTSIDE);
            for (int rain : noRain) Due.is("rain " + rain, x.luck(0, 0, rain, 0, upper), OUTSIDE);
            for (int tenths : noTenths) Due.is("x " + tenths, x.luck(0, 0, 0, tenths, upper), OUTSIDE);
            Due.is("no such roof", x.luck(1, 0, 0, 0, upper), UNKNOWN);
            Due.is("no roof -1", x.luck(-1, 0, 0, 0, upper), UNKNOWN);
            Due.is("UNKNOWN is ahead of OUTSIDE", x.luck(1, 9, 10, 11, upper), UNKNOWN);
        }
    }

    private static void seed() {
        GutterGardens x = new GutterGardens();
        Due.is("0 at first", x.seed(Long.MIN_VALUE), 0);
        Due.is("least", x.seed(Long.MAX_VALUE), Long.MIN_VALUE);
        Due.is("most", x.seed(-1), Long.MAX_VALUE);
        Due.is("-1", x.seed(0), -1);
    }

    private static void summer() {
        GutterGardens x = Due.on("GR9999");
        Due.is("7, 4, 7", x.summer(0, 3), 18);
        x.seed(0);
        Due.is("forty", x.summer(0, 40), 172);
        Due.is("the seed then", x.seed(-5), 2334851202895766344L);
        Due.is("0, 5, 9", x.summer(0, 3), 14);
        Due.is("the seed of these", x.seed(0), 7196867444747056208L);
        Due.is("7", x.summer(0, 1), 7);
        Due.is("4", x.summer(0, 1), 4);
        Due.is("no quarters", x.count(2), 0);
        Due.is("nothing got", x.roof(0, 2), 0);
        Due.is("no acts", x.count(7), 0);
        x.quarter(6);
        x.seed(0);
        Due.is("what was got ahead of it does not count", x.summer(0, 2), 11);
        GutterGardens y = Due.on("GR1999W09");
        y.seed(-5);
        Due.is("no dam: 1 of 9, none of 0", y.summer(0, 2), 2);
        Due.is("by the seed -5 the first quarter is dry", y.seed(-5), seedBehind(-5, 2));
        y.dam(0, true);
        Due.is("a dam", y.summer(0, 2), 2);
        GutterGardens z = Due.on("GR3999W09");
        z.seed(0);
        z.dam(0, true);
        Due.is("three each", z.summer(0, 40), 120);
    }

    private static long seedBehind(long seed, int m) {
        long x = seed;
        for (int i = 0; i < m; i++) x = x * 6364136223846793005L + 1442695040888963407L;
        return x;
    }

    private static void summerRefused() {
        GutterGardens x = Due.on("GR9999");
        x.seed(3);
        int[] outside = {Integer.MIN_VALUE, -1, 0, 41, Integer.MAX_VALUE};
        for (int m : outside) Due.is("m " + m, x.summer(0, m), OUTSIDE);
        Due.is("no such roof", x.summer(1, 1), UNKNOWN);
        Due.is("no roof -1", x.summer(-1, 1), UNKNOWN);
        Due.is("UNKNOWN is ahead of OUTSIDE", x.summer(1, 41), UNKNOWN);
        Due.is("the seed stays", x.seed(0), 3);
    }
}
