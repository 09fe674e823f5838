/** What the tests share: each tells every answer that is not the one that is due. */
final class Check {
    private static int asked = 0;
    private static int wrong = 0;

    private Check() {
    }

    static void due(String call, long got, long want) {
        asked++;
        if (got == want) return;
        wrong++;
        if (wrong <= 40) System.out.println(call + " answered " + got + ", due is " + want);
    }

    /** A row of answers of calls that differ in their last argument alone, which counts from 0. */
    static void dueRow(String call, long[] got, long... want) {
        due("answers of " + call, got.length, want.length);
        for (int i = 0; i < Math.min(got.length, want.length); i++) due(call + " " + i, got[i], want[i]);
    }

    static void feedAll(ValueNumberer x, String text) {
        for (int i = 0; i < text.length(); i++) due("feed " + text.charAt(i), x.feed(text.charAt(i)), x.count(1) == i + 1 ? i + 1 : -99);
    }

    /** A new object that has taken the text. */
    static ValueNumberer taken(String text, int names) {
        ValueNumberer x = new ValueNumberer();
        feedAll(x, text);
        due("text() of " + text, x.text(), names);
        due("fault() of " + text, x.fault(), 0);
        return x;
    }

    static void finish() {
        System.out.println(asked + " answers asked, " + wrong + " not as due");
        if (wrong != 0) System.exit(1);
    }
}
