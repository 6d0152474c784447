/** Promises 19 to 22. */
public final class GaugesTest {
    private static final int OUTSIDE = GutterGardens.OUTSIDE;

    public static void main(String[] args) {
        gauge();
        ungauge();
        whoDammed();
        asWhenAsked();
        eachAnswersByItself();
        rainInTheGauge();
        otherStreets();
        Due.end();
    }

    private static void gauge() {
        GutterGardens x = Due.on("GR0191");
        int[] noQuarters = {Integer.MIN_VALUE, -1, 0, 7, Integer.MAX_VALUE};
        for (int t : noQuarters) Due.is("t " + t, x.gauge(t, 0, 0), OUTSIDE);
        int[] noRain = {Integer.MIN_VALUE, -1, 10, Integer.MAX_VALUE};
        for (int rain : noRain) Due.is("rain " + rain, x.gauge(1, rain, 0), OUTSIDE);
        int[] noWater = {Integer.MIN_VALUE, -1, 1000, Integer.MAX_VALUE};
        for (int w : noWater) Due.is("w " + w, x.gauge(1, 0, w), OUTSIDE);
        Due.is("none", x.count(8), 0);
        Due.is("one", x.gauge(1, 0, 0), 1);
        Due.is("two", x.gauge(6, 9, 999), 2);
        for (int i = 3; i <= 6; i++) Due.is("more", x.gauge(1, 1, 1), i);
        Due.is("a seventh", x.gauge(1, 1, 1), GutterGardens.FULL);
        Due.is("OUTSIDE is ahead of FULL", x.gauge(0, 1, 1), OUTSIDE);
        Due.is("six", x.count(8), 6);
    }

    private static void ungauge() {
        GutterGardens x = Due.on("GR0191W05");
        Due.is("none", x.ungauge(), 0);
        x.gauge(1, 0, 999);
        x.gauge(1, 0, 998);
        Due.is("none fits", x.fits(), 0);
        Due.is("two were", x.ungauge(), 2);
        Due.is("none are", x.count(8), 0);
        Due.is("all fit", x.fits(), 2);
        Due.is("one again", x.gauge(1, 0, 0), 1);
    }

    private static void whoDammed() {
        GutterGardens x = Due.on("GR0199R0199W05W15");
        asks(x, "no gauges", 4, 0, 3);
        x.gauge(2, 0, 2);
        asks(x, "the last one lets two down", 2, 0, 1);
        x.gauge(6, 0, 6);
        asks(x, "and six: with the first one dammed it has five only", 1, 0, 0);
        x.gauge(2, 0, 0);
        asks(x, "it can't let none down, too", 0, GutterGardens.NONE, GutterGardens.NONE);
        x.ungauge();
        x.gauge(2, 0, 0);
        asks(x, "the last one lets none down", 2, 2, 3);
        x.ungauge();
        x.gauge(6, 0, 5);
        asks(x, "the first one dammed, the second not", 1, 1, 1);
        x.dam(1, true);
        asks(x, "dams as now do not matter", 1, 1, 1);
        Due.is("nothing is changed", x.count(9), 10);
        Due.is("nor the butt", x.count(3), 0);
    }

    private static void asks(GutterGardens x, String when, int fits, int all, int some) {
        Due.is(when + ": fits", x.fits(), fits);
        Due.is(when + ": in all", x.dammed(false), all);
        Due.is(when + ": in some", x.dammed(true), some);
    }

    private static void asWhenAsked() {
        GutterGardens x = Due.on("GR0199W03");
        x.gauge(2, 0, 2);
        asks(x, "with three", 1, 0, 0);
        x.quarter(0);
        asks(x, "with two, and one in the butt", 1, 0, 0);
        x.quarter(0);
        asks(x, "with one", 0, GutterGardens.NONE, GutterGardens.NONE);
        x.undo();
        asks(x, "with two again", 1, 0, 0);
    }

    private static void eachAnswersByItself() {
        GutterGardens x = Due.on("GR0199W03");
        x.gauge(1, 0, 0);
        Due.is("dammed, asked first", x.dammed(false), 1);
        x.ungauge();
        Due.is("dammed without gauges", x.dammed(false), 0);
        x.gauge(1, 0, 999);
        Due.is("dammed when none fits", x.dammed(true), GutterGardens.NONE);
    }

    private static void rainInTheGauge() {
        GutterGardens x = Due.on("GR0193R0193");
        x.gauge(1, 4, 1);
        asks(x, "over the dam of roof 1: 1, by its gutter: 1", 4, 0, 3);
        x.gauge(1, 5, 2);
        asks(x, "over either: 2", 4, 0, 3);
        x.gauge(1, 3, 0);
        asks(x, "to the brim: none", 2, 2, 3);
    }

    private static void otherStreets() {
        GutterGardens x = Due.on("GR0199W03");
        x.gauge(1, 0, 0);
        asks(x, "one roof", 1, 1, 1);
        Due.text(x, "GR0199R0199W03");
        x.street();
        asks(x, "two roofs", 4, 0, 3);
        Due.text(x, "G");
        x.street();
        asks(x, "no roofs", 1, 0, 0);
        x.gauge(1, 0, 1);
        asks(x, "no roofs let down one", 0, GutterGardens.NONE, GutterGardens.NONE);
    }
}
