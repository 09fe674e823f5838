import java.util.Random;

/** All promises: calls by a seed on the class and on the model, whose answers are to be the same. */
public final class ModelTest {
    private static final Random RANDOM = new Random(20261119);
    private static ValueNumberer x;
    private static Model y;
    private static String tale;

    public static void main(String[] args) {
        Texts texts = new Texts(7);
        int taken = 0;
        for (int i = 0; i < 1500; i++) {
            start();
            taken += tell(texts.sound()) ? 1 : 0;
            askAll();
            changeAndAsk(texts);
        }
        Check.due("sound texts that are taken", taken, 1500);
        int[] faults = new int[7];
        for (int i = 0; i < 20000; i++) {
            start();
            if (i % 3 == 0) tell(texts.sound());
            tell(texts.spoiled());
            faults[x.fault()]++;
            same("rule", x.rule(4), y.rule(4));
        }
        for (int fault : new int[] {0, 1, 2, 3, 5, 6}) Check.due("texts of fault " + fault, faults[fault] > 100 ? 1 : 0, 1);
        wildCalls(texts);
        Check.finish();
    }

    private static void start() {
        x = new ValueNumberer();
        y = new Model();
        tale = "";
    }

    private static void same(String call, long got, long want) {
        Check.due(tale + " " + call, got, want);
    }

    private static boolean tell(String text) {
        tale += "[" + text + "] ";
        for (int i = 0; i < text.length(); i++) same("feed", x.feed(text.charAt(i)), y.feed(text.charAt(i)));
        int names = x.text();
        same("text()", names, y.text());
        same("fault()", x.fault(), y.fault());
        return names >= 0;
    }

    private static void askAll() {
        for (int what = -1; what < 6; what++) same("rule", x.rule(what), y.rule(what));
        for (int what = -1; what < 5; what++) same("count", x.count(what), y.count(what));
        for (int what = -1; what < 4; what++) same("classes " + what, x.classes(what), y.classes(what));
        for (int what = -1; what < 4; what++) same("went", x.went(what), y.went(what));
        for (int b = -1; b < 7; b++) {
            for (int what = -1; what < 10; what++) same("block", x.block(b, what), y.block(b, what));
            for (int i = -1; i < 7; i++) same("pred", x.pred(b, i), y.pred(b, i));
        }
        for (int n = -1; n <= x.rule(1); n++) askName(n);
    }

    private static void askName(int n) {
        for (int what = -1; what < 6; what++) same("name", x.name(n, what), y.name(n, what));
        for (int i = -1; i < 7; i++) same("operand", x.operand(n, i), y.operand(n, i));
        int m = RANDOM.nextInt(22) - 1;
        same("seen " + n + " " + m, x.seen(n, m), y.seen(n, m));
        same("seen " + m + " " + n, x.seen(m, n), y.seen(m, n));
        same("value " + n, x.value(n), y.value(n));
        same("part " + n, x.part(n), y.part(n));
        int r = RANDOM.nextInt(5);
        same("partAt " + n + " " + r, x.partAt(n, r), y.partAt(n, r));
        same("leader " + n, x.leader(n), y.leader(n));
        same("form " + n, x.form(n), y.form(n));
        same("number " + n, x.number(n), y.number(n));
    }

    private static void run() {
        int a = argument();
        int b = argument();
        tale += "run " + a + " " + b + " ";
        same("run", x.run(a, b, -a, 3), y.run(a, b, -a, 3));
    }

    private static int argument() {
        int which = RANDOM.nextInt(6);
        return which == 0 ? Integer.MIN_VALUE : which == 1 ? RANDOM.nextInt() : RANDOM.nextInt(9) - 4;
    }

    private static void changeAndAsk(Texts texts) {
        run();
        for (int i = 0; i < 12; i++) change();
        run();
        askAll();
        tale += "replace ";
        same("replace()", x.replace(), y.replace());
        run();
        tale += "sweep ";
        same("sweep()", x.sweep(), y.sweep());
        askAll();
        run();
        for (int k = 0; k < 2; k++) same("back " + k, x.back(k), y.back(k));
        askAll();
        if (RANDOM.nextInt(9) == 0) tell(texts.spoiled());
        askAll();
    }

    private static void change() {
        int n = RANDOM.nextInt(21);
        int m = RANDOM.nextInt(21);
        int i = RANDOM.nextInt(3);
        switch (RANDOM.nextInt(8)) {
            case 0 -> {
                tale += "alter " + n + " " + m + " ";
                same("alter", x.alter(n, m), y.alter(n, m));
            }
            case 1 -> {
                int seed = RANDOM.nextInt();
                tale += "agree " + seed + " " + n + " " + m + " ";
                same("agree", x.agree(seed, 9, n, m, 0), y.agree(seed, 9, n, m, 0));
                same("agree", x.agree(seed, 9, n, m, 1), y.agree(seed, 9, n, m, 1));
            }
            case 2 -> {
                if (RANDOM.nextInt(4) != 0) return;
                tale += "keep " + i % 2 + " ";
                same("keep", x.keep(i % 2), y.keep(i % 2));
            }
            case 3 -> run();
            default -> {
                tale += "set " + n + " " + i + " " + m + " ";
                same("set", x.set(n, i, m), y.set(n, i, m));
            }
        }
    }

    /** Any calls with any numbers, mostly small ones. */
    private static void wildCalls(Texts texts) {
        for (int i = 0; i < 300; i++) {
            start();
            for (int j = 0; j < 400; j++) {
                if (j % 50 == 0) {
                    String text = j % 100 == 0 ? texts.sound() : texts.spoiled();
                    same("end(0)", x.end(0), y.end(0));
                    tell(text);
                    tale = text;
                }
                wildCall(RANDOM.nextInt(31), some(), some(), some(), some());
            }
        }
    }

    private static int some() {
        int which = RANDOM.nextInt(40);
        if (which == 0) return Integer.MIN_VALUE;
        if (which == 1) return Integer.MAX_VALUE;
        if (which == 2) return RANDOM.nextInt();
        return which < 20 ? RANDOM.nextInt(4) : RANDOM.nextInt(48) - 3;
    }

    private static void wildCall(int which, int a, int b, int c, int d) {
        String call = which + " " + a + " " + b + " " + c + " " + d;
        switch (which) {
            case 0 -> same(call, x.feed(a), y.feed(a));
            case 1 -> same(call, x.end(a), y.end(a));
            case 2 -> same(call, x.fault(), y.fault());
            case 3 -> same(call, x.rule(a), y.rule(a));
            case 4 -> same(call, x.block(a, b), y.block(a, b));
            case 5 -> same(call, x.pred(a, b), y.pred(a, b));
            case 6 -> same(call, x.name(a, b), y.name(a, b));
            case 7 -> same(call, x.operand(a, b), y.operand(a, b));
            case 8 -> same(call, x.seen(a, b), y.seen(a, b));
            case 9 -> same(call, x.run(a, b, c, d), y.run(a, b, c, d));
            case 10 -> same(call, x.value(a), y.value(a));
            case 11 -> same(call, x.went(a), y.went(a));
            case 12 -> same(call, x.classes(a), y.classes(a));
            case 13 -> same(call, x.part(a), y.part(a));
            case 14 -> same(call, x.partAt(a, b), y.partAt(a, b));
            case 15 -> same(call, x.leader(a), y.leader(a));
            case 16 -> same(call, x.form(a), y.form(a));
            case 17 -> same(call, x.number(a), y.number(a));
            case 18 -> same(call, x.replace(), y.replace());
            case 19 -> {
                if (a == 0) same(call, x.sweep(), y.sweep());
            }
            case 20 -> same(call, x.set(a, b, c), y.set(a, b, c));
            case 21 -> same(call, x.alter(a, b), y.alter(a, b));
            case 22 -> same(call, x.agree(a, b, c, d, a & 1), y.agree(a, b, c, d, a & 1));
            case 23 -> same(call, x.keep(a), y.keep(a));
            case 24 -> same(call, x.back(a), y.back(a));
            case 25 -> same(call, x.sheet(a, b, c), y.sheet(a, b, c));
            case 26 -> same(call, x.lay(a, b, d), y.lay(a, b, d));
            case 27 -> same(call, x.read(a, b, c, d), y.read(a, b, c, d));
            case 28 -> same(call, x.torn(), y.torn());
            case 29 -> same(call, x.count(a), y.count(a));
            default -> {
                if (a == 0) same(call, x.text(), y.text());
            }
        }
    }
}
