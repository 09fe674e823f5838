/** What the tests share: each tells every answer that is not the one that is due. */
final class Check {
    private static int asked = 0;
    private static int wrong = 0;
    private static String about = "";

    private Check() {
    }

    /** What is asked from here on is about these words of the document. */
    static void sentence(String section, String words) {
        about = "[" + section + ": " + words + "] ";
        due("is told in the document", Document.name(section, words) ? 1 : 0, 1);
    }

    static void due(String call, long got, long want) {
        asked++;
        if (got == want) return;
        wrong++;
        if (wrong <= 40) System.out.println(about + call + " answered " + got + ", due is " + want);
    }

    /** A row of answers of calls that differ in their last argument alone, which counts from 0. */
    static void dueRow(String call, long[] got, long... want) {
        due("answers of " + call, got.length, want.length);
        for (int i = 0; i < Math.min(got.length, want.length); i++) due(call + " " + i, got[i], want[i]);
    }

    static void feedAll(ValueNumberer x, String text) {
        int had = x.count(1);
        for (int i = 0; i < text.length(); i++) due("feed " + text.charAt(i), x.feed(text.charAt(i)), had + i + 1);
    }

    /** A new object that has taken the text. */
    static ValueNumberer taken(String text, int names) {
        ValueNumberer x = new ValueNumberer();
        feedAll(x, text);
        due("text() of " + text, x.text(), names);
        due("fault() of " + text, x.fault(), 0);
        return x;
    }

    /** A new object refuses the text, by a fault at a place. */
    static void refused(String text, int fault, int place) {
        ValueNumberer x = new ValueNumberer();
        feedAll(x, text);
        due("text() of " + text, x.text(), -10 - place);
        due("fault() of " + text, x.fault(), fault);
        due("tape behind " + text, x.count(1), 0);
        due("blocks behind " + text, x.rule(0), 0);
    }

    static void finish() {
        System.out.println(asked + " answers asked, " + wrong + " not as due");
        if (wrong != 0) System.exit(1);
    }
}
