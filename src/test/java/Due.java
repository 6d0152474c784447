/** What the tests share: a count of wrong answers, and streets told as texts. */
final class Due {
    private static int asked = 0;
    private static int wrong = 0;
    private static String words = "";

    private Due() {
    }

    /**
     * The words of the document by which the answers that follow are due. DocTest reads these calls, too: it looks
     * whether the words stand in that part of the document, and whether any words there are left out.
     */
    static void sentence(String part, String quoted) {
        words = part + ": " + quoted + ": ";
    }

    static void is(String call, long got, long want) {
        asked++;
        if (got == want) return;
        wrong++;
        if (wrong <= 40) System.out.println(words + call + " answered " + got + ", due is " + want);
    }

    static void that(String what, boolean holds) {
        is(what, holds ? 1 : 0, 1);
    }

    static void text(GutterGardens x, String text) {
        x.wipe();
        for (int i = 0; i < text.length(); i++) x.write(1, text.charAt(i));
    }

    /** A new object on the street of a text that has no fault. */
    static GutterGardens on(String text) {
        GutterGardens x = new GutterGardens();
        text(x, text);
        if (x.street() < 0) {
            wrong++;
            System.out.println(text + " is no street");
        }
        return x;
    }

    static int faultOf(String text) {
        GutterGardens x = new GutterGardens();
        text(x, text);
        return x.fault();
    }

    static void end() {
        System.out.println(wrong == 0 ? asked + " answers are as due" : wrong + " answers are not as due");
        if (wrong != 0) System.exit(1);
    }
}
