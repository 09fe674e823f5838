import java.util.ArrayList;
import java.util.List;
import java.util.Random;

/** Texts made by a seed: those that are to be taken, and those with something wrong. */
final class Texts {
    private static final String[] PAIRS = {"add", "mul", "less", "div"};

    private final Random random;
    private int blocks;
    private int[][] goals;
    private int[] homes;
    private boolean[] isPhi;

    Texts(long seed) {
        random = new Random(seed);
    }

    /** It may be too long for the tape; then another is made. */
    String sound() {
        for (int i = 0; i < 1000; i++) {
            String text = make();
            if (text.length() <= 320) return text;
        }
        throw new IllegalStateException();
    }

    String spoiled() {
        boolean isWild = random.nextInt(3) == 0;
        StringBuilder text = new StringBuilder(isWild ? wild() : sound());
        int changes = isWild ? random.nextInt(2) : 1 + random.nextInt(2);
        for (int i = 0; i < changes; i++) spoil(text);
        if (text.length() > 320) text.setLength(320);
        return text.toString();
    }

    private void spoil(StringBuilder text) {
        String signs = "0123456789;; aghlz?A~" + (char) 0;
        char c = signs.charAt(random.nextInt(signs.length()));
        int at = random.nextInt(text.length() + 1);
        switch (random.nextInt(5)) {
            case 0 -> text.insert(at, c);
            case 1 -> text.setLength(at);
            case 2 -> {
                String[] words = {"phi", "num 1;", "block", "add", "goto 1;", " 1", "ret"};
                text.insert(at, words[random.nextInt(words.length)]);
            }
            default -> {
                if (at < text.length() && random.nextBoolean()) text.setCharAt(at, c);
                else if (at < text.length()) text.deleteCharAt(at);
            }
        }
    }

    /** The words stand where they may, the numbers as they come. */
    private String wild() {
        StringBuilder text = new StringBuilder();
        if (random.nextInt(4) == 0) return many();
        int some = 1 + random.nextInt(7);
        for (int b = 0; b < some; b++) {
            text.append("block;");
            int names = random.nextInt(5);
            for (int n = 0; n < names; n++) text.append(wildName(n));
            switch (random.nextInt(3)) {
                case 0 -> text.append("goto ").append(1 + random.nextInt(some)).append(';');
                case 1 -> text.append("if ").append(random.nextInt(9)).append(' ').append(1 + random.nextInt(5)).append(" 1;");
                default -> text.append("ret ").append(random.nextInt(9)).append(';');
            }
        }
        return text.length() > 300 ? text.substring(0, 300) : text.toString();
    }

    /** As many blocks or names as there may be, or one more. */
    private String many() {
        if (random.nextBoolean()) return "block;goto1;".repeat(6 + random.nextInt(2));
        int first = random.nextInt(20);
        String goes = "goto1;block;";
        return "block;" + "num1;".repeat(first) + goes + "arg0;".repeat(20 + random.nextInt(2) - first) + "goto 1;";
    }

    private String wildName(int n) {
        if (n == 0 && random.nextBoolean()) return "phi " + random.nextInt(9) + ";";
        if (random.nextBoolean()) return "num " + random.nextInt(101) + ";";
        return PAIRS[random.nextInt(4)] + " " + random.nextInt(21) + " " + random.nextInt(12) + ";";
    }

    private String make() {
        do {
            blocks = 1 + random.nextInt(6);
            goals = new int[blocks][];
            for (int b = 0; b < blocks; b++) goals[b] = someGoals();
        } while (!allMet());
        int names = random.nextInt(21);
        homes = new int[names];
        isPhi = new boolean[names];
        for (int n = 0; n < names; n++) homes[n] = random.nextInt(blocks);
        java.util.Arrays.sort(homes);
        boolean isEasy = random.nextBoolean();
        StringBuilder text = new StringBuilder();
        int n = 0;
        for (int b = 0; b < blocks; b++) {
            text.append(blanks(isEasy, false)).append("block").append(blanks(isEasy, false)).append(';');
            boolean mayPhi = !preds(b).isEmpty();
            for (; n < names && homes[n] == b; n++) {
                mayPhi = mayPhi && random.nextInt(3) != 0;
                append(text, mayPhi ? phi(b) : op(n), isEasy);
            }
            append(text, endOf(b), isEasy);
        }
        return text.append(blanks(isEasy, false)).toString();
    }

    private void append(StringBuilder text, List<String> tokens, boolean isEasy) {
        if (tokens == null) {
            text.append(" ".repeat(400));
            return;
        }
        boolean wasNumber = false;
        for (String token : tokens) {
            boolean isNumber = Character.isDigit(token.charAt(0));
            text.append(blanks(isEasy, isNumber && wasNumber)).append(token);
            wasNumber = isNumber;
        }
        text.append(blanks(isEasy, false)).append(';');
    }

    private String blanks(boolean isEasy, boolean isNeeded) {
        int many = isEasy || random.nextInt(4) != 0 ? 0 : random.nextInt(3);
        return " ".repeat(isNeeded ? many + 1 : many);
    }

    private int[] someGoals() {
        if (blocks == 1) return new int[0];
        int many = random.nextInt(7);
        int one = 1 + random.nextInt(blocks - 1);
        if (many < 1) return new int[0];
        return many < 4 ? new int[] {one} : new int[] {one, 1 + random.nextInt(blocks - 1)};
    }

    private int reached(int without) {
        int met = without == 0 ? 0 : 1;
        for (int round = 0; round < blocks; round++) {
            for (int b = 0; b < blocks; b++) {
                if ((met >> b & 1) != 0) for (int goal : goals[b]) if (goal != without) met |= 1 << goal;
            }
        }
        return met;
    }

    private boolean allMet() {
        return reached(-1) == (1 << blocks) - 1;
    }

    private boolean dominates(int a, int b) {
        return a == b || (reached(a) >> b & 1) == 0;
    }

    private List<Integer> preds(int b) {
        List<Integer> all = new ArrayList<>();
        for (int from = 0; from < blocks; from++) {
            boolean leads = false;
            for (int goal : goals[from]) leads |= goal == b;
            if (leads) all.add(from);
        }
        return all;
    }

    /** NONE is null: then there is no name to be told. */
    private String atEnd(int b) {
        List<Integer> all = new ArrayList<>();
        for (int m = 0; m < homes.length; m++) if (dominates(homes[m], b)) all.add(m);
        return pick(all);
    }

    private String at(int n) {
        List<Integer> all = new ArrayList<>();
        for (int m = 0; m < homes.length; m++) {
            if (homes[m] == homes[n] ? m < n : dominates(homes[m], homes[n])) all.add(m);
        }
        return pick(all);
    }

    private String pick(List<Integer> all) {
        return all.isEmpty() ? null : figures(all.get(random.nextInt(all.size())));
    }

    private String figures(int v) {
        return v < 10 && random.nextInt(9) == 0 ? "0" + v : Integer.toString(v);
    }

    private List<String> phi(int b) {
        List<String> tokens = new ArrayList<>(List.of("phi"));
        for (int from : preds(b)) {
            String m = atEnd(from);
            if (m == null) return null;
            tokens.add(m);
        }
        return tokens;
    }

    private List<String> op(int n) {
        int which = random.nextInt(10);
        String x = at(n);
        if (which < 2 || x == null && which < 8) return List.of("num", figures(new int[] {0, 1, 1, 2, 7, 98, 99}[random.nextInt(7)]));
        if (which < 4 || x == null) return List.of("arg", figures(random.nextInt(4)));
        if (which < 6) return List.of("neg", x);
        return List.of(PAIRS[random.nextInt(4)], x, at(n));
    }

    private List<String> endOf(int b) {
        if (goals[b].length == 1) return List.of("goto", figures(goals[b][0]));
        String asked = atEnd(b);
        if (asked == null) return null;
        if (goals[b].length == 0) return List.of("ret", asked);
        return List.of("if", asked, figures(goals[b][0]), figures(goals[b][1]));
    }
}
