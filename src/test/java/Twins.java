import java.util.ArrayList;
import java.util.List;

/** Two objects with the same past: what is asked of one of them alone changes nothing, if they answer alike behind it. */
final class Twins {
    /** Six roofs in 40 bytes. */
    static final String TEXT = "GR0199R1911R2235R0109R0991R3399W05W37W49";

    interface Call {
        long on(GutterGardens x);
    }

    interface Past {
        GutterGardens made();
    }

    private Twins() {
    }

    /**
     * All of it at its end: 40 bytes, 6 ROOFS, a row of 12 ACTS (of 14), 6 GAUGES, both SLOTS. ROOF 0 has 99 SOAP,
     * ROOFS 1 and 2 have no WATER.
     */
    static GutterGardens full() {
        GutterGardens x = Due.on(TEXT);
        x.seed(77);
        for (int i = 0; i < 6; i++) x.gauge(1 + i, i, i);
        x.quarter(0);
        x.keep(0);
        x.dam(0, true);
        x.dam(4, true);
        for (int i = 0; i < 10; i++) x.soap(0, 9);
        x.keep(1);
        x.soap(0, 9);
        x.quarter(0);
        x.quarter(0);
        return x;
    }

    /** Two ROOFS, a text at fault, no ACTS, no GAUGES, one SLOT kept; ROOF 1 is dry. */
    static GutterGardens bare() {
        GutterGardens x = Due.on("GR1939R2119W03");
        x.write(1, 'X');
        x.seed(-5);
        x.dam(1, true);
        x.keep(1);
        return x;
    }

    static void refused(Past past, String name, long refusal, Call call) {
        GutterGardens x = past.made();
        Due.is(name, call.on(x), refusal);
        Due.that(name + ": what is refused changes nothing", all(x).equals(all(past.made())));
    }

    static void unchanged(Past past, String name, Call call) {
        GutterGardens x = past.made();
        Due.that(name + " is not refused", call.on(x) >= 0);
        Due.that(name + ": nothing is changed", all(x).equals(all(past.made())));
    }

    /** All that an object answers; it is used up by that, but for less than 512 calls. */
    static List<Long> all(GutterGardens x) {
        List<Long> answers = new ArrayList<>();
        look(x, answers);
        answers.add((long) x.fault());
        answers.add((long) x.fits());
        answers.add((long) x.ungauge());
        answers.add(x.seed(0));
        for (int i = 0; i < 13; i++) {
            answers.add((long) x.undo());
            for (int what = 2; what <= 4; what++) answers.add((long) x.count(what));
        }
        look(x, answers);
        for (int slot = 0; slot < 2; slot++) {
            answers.add((long) x.again(slot));
            look(x, answers);
        }
        answers.add((long) x.wipe());
        return answers;
    }

    private static void look(GutterGardens x, List<Long> answers) {
        for (int what = 0; what <= 9; what++) answers.add((long) x.count(what));
        for (int roof = 0; roof < x.count(1); roof++) {
            for (int what = 0; what <= 9; what++) answers.add((long) x.roof(roof, what));
        }
    }
}
