import java.math.BigInteger;
import java.util.ArrayDeque;
import java.util.ArrayList;
import java.util.Deque;
import java.util.HashMap;
import java.util.HashSet;
import java.util.List;
import java.util.Map;
import java.util.Objects;
import java.util.Set;
import java.util.TreeSet;
import java.util.regex.Matcher;
import java.util.regex.Pattern;

/** The document told a second time, with the Java library and by other ways, to be compared with the class. */
final class Model {
    static final int BAD = -1, STATE = -2, FULL = -3, NONE = -4;
    static final long VOID = 1000000000000L, NOTHING = 2000000000000L;
    private static final List<String> KINDS = List.of("num", "arg", "add", "mul", "neg", "less", "div", "phi", "gone");

    private static final class Name {
        String kind;
        int block;
        int figure;
        List<Integer> operands = new ArrayList<>();

        Name copy() {
            Name n = new Name();
            n.kind = kind;
            n.block = block;
            n.figure = figure;
            n.operands.addAll(operands);
            return n;
        }

        boolean isGone() {
            return kind.equals("gone");
        }

        boolean crosses() {
            return kind.equals("add") || kind.equals("mul");
        }
    }

    private static final class Block {
        String end;
        int asked = NONE;
        List<Integer> goals = new ArrayList<>();

        Block copy() {
            Block b = new Block();
            b.end = end;
            b.asked = asked;
            b.goals.addAll(goals);
            return b;
        }
    }

    private static final class Refusal extends RuntimeException {
        private static final long serialVersionUID = 1L;
        final int fault;
        final int place;

        Refusal(int fault, int place) {
            super(null, null, false, false);
            this.fault = fault;
            this.place = place;
        }
    }

    private static final class Told {
        List<Name> names = new ArrayList<>();
        List<Block> blocks = new ArrayList<>();

        Told copy() {
            Told t = new Told();
            for (Name n : names) t.names.add(n.copy());
            for (Block b : blocks) t.blocks.add(b.copy());
            return t;
        }

        Set<Integer> preds(int b) {
            Set<Integer> all = new TreeSet<>();
            for (int from = 0; from < blocks.size(); from++) if (blocks.get(from).goals.contains(b)) all.add(from);
            return all;
        }

        boolean leads(int to, int without) {
            Set<Integer> met = new HashSet<>();
            Deque<Integer> open = new ArrayDeque<>();
            if (without != 0) open.add(0);
            while (!open.isEmpty()) {
                int b = open.pop();
                if (b == without || !met.add(b)) continue;
                open.addAll(blocks.get(b).goals);
            }
            return met.contains(to);
        }

        boolean dominates(int a, int b) {
            return a == b || !leads(b, a);
        }

        boolean isSeen(int n, int m) {
            int a = names.get(n).block;
            int b = names.get(m).block;
            return a == b ? n < m : dominates(a, b);
        }

        boolean maySet(int n, int i, int m) {
            Name name = names.get(n);
            if (!name.kind.equals("phi")) return isSeen(m, n);
            int from = new ArrayList<>(preds(name.block)).get(i);
            return dominates(names.get(m).block, from);
        }
    }

    private static final class Reading {
        private static final Pattern TOKEN = Pattern.compile("[a-z]+|[0-9]+|;");
        final String text;
        final Told told = new Told();
        int place = 0;
        String token;
        int start;

        Reading(String text) {
            this.text = text;
        }

        void next() {
            while (place < text.length() && text.charAt(place) == ' ') place++;
            start = place;
            if (place == text.length()) {
                token = "";
                return;
            }
            Matcher m = TOKEN.matcher(text).region(place, text.length());
            if (!m.lookingAt()) throw new Refusal(1, start);
            token = m.group();
            if (token.matches("[0-9]{3,}")) throw new Refusal(1, start);
            place = m.end();
        }

        int number(int low, int high) {
            if (!token.matches("[0-9]+")) throw new Refusal(2, start);
            int v = Integer.parseInt(token);
            if (v < low || v > high) throw new Refusal(3, start);
            next();
            return v;
        }

        void semicolon() {
            if (!token.equals(";")) throw new Refusal(2, start);
            next();
        }

        Told read() {
            next();
            while (!token.isEmpty()) {
                if (!token.equals("block")) throw new Refusal(2, start);
                if (told.blocks.size() == 6) throw new Refusal(5, start);
                told.blocks.add(new Block());
                next();
                semicolon();
                names();
                end();
            }
            sound();
            return told;
        }

        private void names() {
            boolean phis = true;
            while (KINDS.contains(token) && !token.equals("gone")) {
                if (token.equals("phi") && !phis) throw new Refusal(2, start);
                if (told.names.size() == 20) throw new Refusal(5, start);
                Name n = new Name();
                n.kind = token;
                n.block = told.blocks.size() - 1;
                told.names.add(n);
                phis = phis && token.equals("phi");
                next();
                switch (n.kind) {
                    case "num" -> n.figure = number(0, 99);
                    case "arg" -> n.figure = number(0, 3);
                    case "neg" -> n.operands.add(number(0, 19));
                    case "phi" -> {
                        do n.operands.add(number(0, 19)); while (token.matches("[0-9]+"));
                    }
                    default -> {
                        n.operands.add(number(0, 19));
                        n.operands.add(number(0, 19));
                    }
                }
                semicolon();
            }
        }

        private void end() {
            Block b = told.blocks.get(told.blocks.size() - 1);
            b.end = token;
            switch (b.end) {
                case "goto" -> {
                    next();
                    b.goals.add(number(1, 5));
                }
                case "if" -> {
                    next();
                    b.asked = number(0, 19);
                    b.goals.add(number(1, 5));
                    b.goals.add(number(1, 5));
                }
                case "ret" -> {
                    next();
                    b.asked = number(0, 19);
                }
                default -> throw new Refusal(2, start);
            }
            semicolon();
        }

        private void sound() {
            if (!isSound()) throw new Refusal(6, text.length());
        }

        private boolean isSound() {
            for (Block b : told.blocks) for (int goal : b.goals) if (goal >= told.blocks.size()) return false;
            for (int b = 0; b < told.blocks.size(); b++) if (!told.leads(b, NONE)) return false;
            for (int n = 0; n < told.names.size(); n++) {
                Name name = told.names.get(n);
                if (name.kind.equals("phi") && name.operands.size() != told.preds(name.block).size()) return false;
                for (int i = 0; i < name.operands.size(); i++) {
                    int m = name.operands.get(i);
                    if (m >= told.names.size() || !told.maySet(n, i, m)) return false;
                }
            }
            for (int b = 0; b < told.blocks.size(); b++) {
                int asked = told.blocks.get(b).asked;
                if (asked == NONE) continue;
                if (asked >= told.names.size() || !told.dominates(told.names.get(asked).block, b)) return false;
            }
            return true;
        }
    }

    /** Null stands for void. */
    private static Integer bring(String kind, Integer x, Integer y) {
        if (kind.equals("less")) return x != null && y != null && x < y ? 1 : 0;
        if (x == null || y == null) return null;
        BigInteger a = BigInteger.valueOf(x);
        BigInteger b = BigInteger.valueOf(y);
        switch (kind) {
            case "add": return a.add(b).intValue();
            case "mul": return a.multiply(b).intValue();
            case "neg": return a.negate().intValue();
            default: return y == 0 ? null : Integer.valueOf(a.divide(b).intValue());
        }
    }

    private static long toldAs(Integer v) {
        return v == null ? VOID : v;
    }

    private final class Run {
        final Map<Integer, Integer> values = new HashMap<>();
        int blocks = 0;
        int got = 0;
        boolean returned = false;
        long result = NOTHING;
        int differences = 0;

        Run(int[] args, int k, int m) {
            int from = NONE;
            int at = told.blocks.isEmpty() ? NONE : 0;
            while (at != NONE && blocks < 200) {
                blocks++;
                enter(from, at, k, m);
                for (int n = 0; n < told.names.size(); n++) {
                    Name name = told.names.get(n);
                    if (name.block != at || name.isGone() || name.kind.equals("phi")) continue;
                    values.put(n, valueOf(name, args));
                    got++;
                    if (n == m) compare(k, m);
                }
                Block b = told.blocks.get(at);
                from = at;
                if (b.end.equals("ret")) {
                    returned = true;
                    result = toldAs(values.get(b.asked));
                    at = NONE;
                } else if (b.end.equals("goto")) {
                    at = b.goals.get(0);
                } else {
                    Integer v = values.get(b.asked);
                    at = b.goals.get(v != null && v > 0 ? 0 : 1);
                }
            }
        }

        private void enter(int from, int at, int k, int m) {
            Map<Integer, Integer> before = new HashMap<>(values);
            boolean watched = false;
            for (int n = 0; n < told.names.size(); n++) {
                Name name = told.names.get(n);
                if (name.block != at || !name.kind.equals("phi")) continue;
                int i = new ArrayList<>(told.preds(at)).indexOf(from);
                values.put(n, before.get(name.operands.get(i)));
                got++;
                watched |= n == m;
            }
            if (watched) compare(k, m);
        }

        private void compare(int k, int m) {
            if (values.containsKey(k) && !Objects.equals(values.get(k), values.get(m))) differences++;
        }

        private Integer valueOf(Name name, int[] args) {
            if (name.kind.equals("num")) return name.figure == 99 ? null : Integer.valueOf(name.figure);
            if (name.kind.equals("arg")) return args[name.figure];
            Integer x = values.get(name.operands.get(0));
            if (name.kind.equals("neg")) return bring("neg", x, 0);
            return bring(name.kind, x, values.get(name.operands.get(1)));
        }
    }

    private String tape = "";
    private int fault = 0;
    private Told told = new Told();
    private Run latest = null;
    private final Told[] images = new Told[2];
    private final int[][] sheets = new int[4][];
    private final int[] lanes = new int[4];
    private int torn = 0;

    private boolean isName(int n) {
        return n >= 0 && n < told.names.size();
    }

    int feed(int c) {
        if (c < 0 || c > 127) return BAD;
        if (tape.length() == 320) return FULL;
        tape += (char) c;
        return tape.length();
    }

    int end(int n) {
        if (n < 0 || n > tape.length()) return BAD;
        int had = tape.length();
        tape = tape.substring(0, n);
        return had;
    }

    int text() {
        String text = tape;
        tape = "";
        try {
            told = new Reading(text).read();
            fault = 0;
        } catch (Refusal r) {
            fault = r.fault;
            return -10 - r.place;
        }
        images[0] = null;
        images[1] = null;
        latest = null;
        return told.names.size();
    }

    int fault() {
        return fault;
    }

    int rule(int what) {
        if (what == 0) return told.blocks.size();
        if (what == 1) return told.names.size();
        if (what == 2) return (int) told.names.stream().filter(Name::isGone).count();
        if (what == 3) return (int) told.names.stream().filter(n -> n.kind.equals("phi")).count();
        if (what != 4) return BAD;
        int ends = (int) told.blocks.stream().filter(b -> b.asked != NONE).count();
        return ends + told.names.stream().mapToInt(n -> n.operands.size()).sum();
    }

    int block(int b, int what) {
        if (b < 0 || b >= told.blocks.size()) return BAD;
        Block block = told.blocks.get(b);
        List<Integer> own = new ArrayList<>();
        for (int n = 0; n < told.names.size(); n++) if (told.names.get(n).block == b) own.add(n);
        List<Integer> above = new ArrayList<>();
        for (int d = 0; d < told.blocks.size(); d++) if (told.dominates(d, b)) above.add(d);
        switch (what) {
            case 0: return own.isEmpty() ? NONE : own.get(0);
            case 1: return own.size();
            case 2: return List.of("goto", "if", "ret").indexOf(block.end);
            case 3: return block.goals.isEmpty() ? NONE : block.goals.get(0);
            case 4: return block.goals.size() < 2 ? NONE : block.goals.get(1);
            case 5: return block.asked;
            case 6: return told.preds(b).size();
            case 7: return above.stream().mapToInt(d -> 1 << d).sum();
            case 8:
                for (int d : above) {
                    if (d == b) continue;
                    boolean nearest = true;
                    for (int o : above) nearest &= o == b || told.dominates(o, d);
                    if (nearest) return d;
                }
                return NONE;
            default: return BAD;
        }
    }

    int pred(int b, int i) {
        if (b < 0 || b >= told.blocks.size()) return BAD;
        List<Integer> all = new ArrayList<>(told.preds(b));
        return i < 0 || i >= all.size() ? BAD : all.get(i);
    }

    int name(int n, int what) {
        if (!isName(n)) return BAD;
        Name name = told.names.get(n);
        switch (what) {
            case 0: return KINDS.indexOf(name.kind);
            case 1: return name.block;
            case 2: return name.operands.size();
            case 3: return name.kind.equals("num") || name.kind.equals("arg") ? name.figure : NONE;
            case 4:
                int many = 0;
                for (Name other : told.names) for (int m : other.operands) if (m == n) many++;
                for (Block b : told.blocks) if (b.asked == n) many++;
                return many;
            default: return BAD;
        }
    }

    int operand(int n, int i) {
        if (!isName(n) || i < 0 || i >= told.names.get(n).operands.size()) return BAD;
        return told.names.get(n).operands.get(i);
    }

    int seen(int n, int m) {
        if (!isName(n) || !isName(m)) return BAD;
        return told.isSeen(n, m) ? 1 : 0;
    }

    long run(int a, int b, int c, int d) {
        latest = new Run(new int[] {a, b, c, d}, NONE, NONE);
        return latest.result;
    }

    long value(int n) {
        if (!isName(n)) return BAD;
        return latest == null || !latest.values.containsKey(n) ? NOTHING : toldAs(latest.values.get(n));
    }

    int went(int what) {
        if (what < 0 || what > 2) return BAD;
        if (latest == null) return NONE;
        return what == 0 ? latest.blocks : what == 1 ? latest.got : latest.returned ? 1 : 0;
    }

    private boolean[][] hopeful() {
        int many = told.names.size();
        boolean[][] alike = new boolean[many][many];
        for (int n = 0; n < many; n++) {
            for (int m = 0; m < many; m++) {
                Name a = told.names.get(n);
                Name b = told.names.get(m);
                boolean same = a.kind.equals(b.kind) && !a.isGone();
                if (a.kind.equals("num") || a.kind.equals("arg")) same &= a.figure == b.figure;
                if (a.kind.equals("phi")) same &= a.block == b.block;
                alike[n][m] = same || n == m;
            }
        }
        return alike;
    }

    private boolean[][] next(boolean[][] was) {
        boolean[][] alike = new boolean[was.length][was.length];
        for (int n = 0; n < was.length; n++) {
            for (int m = 0; m < was.length; m++) {
                List<Integer> a = told.names.get(n).operands;
                List<Integer> b = told.names.get(m).operands;
                boolean straight = was[n][m];
                boolean cross = was[n][m] && told.names.get(n).crosses();
                for (int i = 0; was[n][m] && i < a.size(); i++) {
                    straight &= was[a.get(i)][b.get(i)];
                    if (cross) cross = was[a.get(i)][b.get(1 - i)];
                }
                alike[n][m] = straight || cross;
            }
        }
        return alike;
    }

    private boolean[][] alikeAt(int r) {
        boolean[][] alike = hopeful();
        for (int i = 0; i < r; i++) alike = next(alike);
        return alike;
    }

    int classes(int what) {
        if (what < 0 || what > 2) return BAD;
        if (what == 1) {
            int r = 0;
            while (!java.util.Arrays.deepEquals(alikeAt(r), alikeAt(r + 1))) r++;
            return r;
        }
        Map<Integer, Integer> sizes = new HashMap<>();
        for (int n = 0; n < told.names.size(); n++) if (!told.names.get(n).isGone()) sizes.merge(part(n), 1, Integer::sum);
        return what == 0 ? sizes.size() : sizes.values().stream().mapToInt(s -> s).max().orElse(0);
    }

    int part(int n) {
        return partAt(n, 25);
    }

    int partAt(int n, int r) {
        if (!isName(n) || r < 0 || r > 100) return BAD;
        boolean[] row = alikeAt(Math.min(r, 25))[n];
        for (int m = 0; m < row.length; m++) if (row[m]) return m;
        return BAD;
    }

    int leader(int n) {
        if (!isName(n)) return BAD;
        boolean[] row = alikeAt(25)[n];
        List<Integer> some = new ArrayList<>();
        for (int m = 0; m < row.length; m++) if (row[m] && (m == n || told.isSeen(m, n))) some.add(m);
        for (int m : some) {
            boolean first = true;
            for (int o : some) first &= o == m || told.isSeen(m, o);
            if (first) return m;
        }
        throw new IllegalStateException();
    }

    private record Form(int name, Integer number) {
        boolean isNumber() {
            return name == NONE;
        }

        boolean is(int v) {
            return isNumber() && number != null && number == v;
        }

        boolean isVoid() {
            return isNumber() && number == null;
        }
    }

    private List<Form> forms() {
        List<Form> all = new ArrayList<>();
        for (int n = 0; n < told.names.size(); n++) all.add(new Form(n, null));
        for (int n = 0; n < told.names.size(); n++) all.set(n, form(n, all));
        return all;
    }

    private Form form(int n, List<Form> all) {
        Name name = told.names.get(n);
        List<Form> of = new ArrayList<>();
        for (int m : name.operands) of.add(all.get(m));
        if (name.isGone()) return all.get(n);
        if (name.kind.equals("num")) return new Form(NONE, name.figure == 99 ? null : name.figure);
        if (name.kind.equals("neg")) {
            if (of.get(0).isNumber()) return new Form(NONE, bring("neg", of.get(0).number(), 0));
            Name inner = told.names.get(of.get(0).name());
            if (inner.kind.equals("neg")) return all.get(inner.operands.get(0));
        }
        if (name.kind.equals("phi")) {
            if (looks(n)) return all.get(n);
            if (new HashSet<>(of).size() == 1) return of.get(0);
        }
        if (List.of("add", "mul", "less", "div").contains(name.kind)) {
            Form x = of.get(0);
            Form y = of.get(1);
            if (x.isNumber() && y.isNumber()) return new Form(NONE, bring(name.kind, x.number(), y.number()));
            if (x.isVoid() || y.isVoid()) return new Form(NONE, name.kind.equals("less") ? 0 : null);
            if (name.kind.equals("add") && x.is(0)) return y;
            if (name.kind.equals("add") && y.is(0)) return x;
            if (name.kind.equals("mul") && x.is(1)) return y;
            if (!name.kind.equals("less") && !name.kind.equals("add") && y.is(1)) return x;
        }
        for (int m = 0; m < n; m++) {
            Name other = told.names.get(m);
            if (!other.kind.equals(name.kind) || all.get(m).name() != m) continue;
            if (name.kind.equals("arg") && other.figure != name.figure) continue;
            if (name.kind.equals("phi") && (other.block != name.block || looks(m))) continue;
            List<Form> others = new ArrayList<>();
            for (int o : other.operands) others.add(all.get(o));
            if (others.equals(of)) return all.get(m);
            java.util.Collections.reverse(others);
            if (name.crosses() && others.equals(of)) return all.get(m);
        }
        return all.get(n);
    }

    private boolean looks(int n) {
        for (int m : told.names.get(n).operands) if (m >= n) return true;
        return false;
    }

    int form(int n) {
        return isName(n) ? forms().get(n).name() : BAD;
    }

    long number(int n) {
        if (!isName(n)) return BAD;
        Form f = forms().get(n);
        return f.isNumber() ? toldAs(f.number()) : NOTHING;
    }

    int replace() {
        int many = 0;
        List<Integer> leaders = new ArrayList<>();
        for (int n = 0; n < told.names.size(); n++) leaders.add(leader(n));
        for (Name n : told.names) {
            for (int i = 0; i < n.operands.size(); i++) {
                int was = n.operands.set(i, leaders.get(n.operands.get(i)));
                if (was != n.operands.get(i)) many++;
            }
        }
        for (Block b : told.blocks) {
            if (b.asked == NONE) continue;
            if (leaders.get(b.asked) != b.asked) many++;
            b.asked = leaders.get(b.asked);
        }
        return many;
    }

    int sweep() {
        Set<Integer> needed = new HashSet<>();
        Deque<Integer> open = new ArrayDeque<>();
        for (Block b : told.blocks) if (b.asked != NONE) open.add(b.asked);
        while (!open.isEmpty()) {
            int n = open.pop();
            if (needed.add(n)) open.addAll(told.names.get(n).operands);
        }
        int many = 0;
        for (int n = 0; n < told.names.size(); n++) {
            Name name = told.names.get(n);
            if (needed.contains(n) || name.isGone()) continue;
            name.kind = "gone";
            name.operands.clear();
            many++;
        }
        return many;
    }

    int set(int n, int i, int m) {
        if (operand(n, i) == BAD || !isName(m)) return BAD;
        if (told.names.get(m).isGone() || !told.maySet(n, i, m)) return STATE;
        return told.names.get(n).operands.set(i, m);
    }

    int alter(int n, int v) {
        int was = name(n, 3);
        if (was < 0 || v < 0 || v > (name(n, 0) == 0 ? 99 : 3)) return BAD;
        told.names.get(n).figure = v;
        return was;
    }

    int agree(int seed, int n, int k, int m, int what) {
        if (n < 1 || n > 50 || !isName(k) || !isName(m) || what < 0 || what > 1) return BAD;
        BigInteger state = BigInteger.valueOf(seed);
        int differences = 0;
        int returned = 0;
        for (int r = 0; r < n; r++) {
            int[] args = new int[4];
            for (int a = 0; a < 4; a++) {
                state = state.multiply(BigInteger.valueOf(1103515245)).add(BigInteger.valueOf(12345));
                args[a] = state.shiftRight(16).mod(BigInteger.valueOf(1 << 15)).intValue() % 9 - 4;
            }
            Run run = new Run(args, k, m);
            differences += run.differences;
            if (run.returned) returned++;
        }
        return what == 0 ? differences : returned;
    }

    int keep(int k) {
        if (k < 0 || k > 1) return BAD;
        int was = images[k] == null ? 0 : 1;
        images[k] = told.copy();
        return was;
    }

    int back(int k) {
        if (k < 0 || k > 1) return BAD;
        if (images[k] == null) return STATE;
        told = images[k].copy();
        latest = null;
        return told.names.size();
    }

    int sheet(int k, int lane, int n) {
        if (k < 0 || k > 3 || lane < 0 || lane > 2 || n > 40) return BAD;
        if (n < 0) return -14;
        sheets[k] = new int[n];
        lanes[k] = lane;
        return 1;
    }

    int lay(int k, int i, int v) {
        if (k < 0 || k > 3) return BAD;
        if (sheets[k] == null) return -11;
        if (i < 0 || i >= sheets[k].length) return -12;
        int bits = 32 - (8 << lanes[k]);
        sheets[k][i] = v << bits >> bits;
        return 1;
    }

    int read(int k, int lane, int f, int n) {
        if (k < 0 || k > 3 || lane < 0 || lane > 2 || n < 0 || n > 20) return BAD;
        torn = 0;
        for (int r = 0; r < n; r++) {
            int[] args = new int[4];
            for (int a = 0; a < 4; a++) {
                long cell = f + 4L * r + a;
                if (sheets[k] == null) torn = 1;
                else if (lanes[k] != lane) torn = 3;
                else if (cell < 0 || cell >= sheets[k].length) torn = 2;
                if (torn != 0) return r;
                args[a] = sheets[k][(int) cell];
            }
            latest = new Run(args, NONE, NONE);
        }
        return n;
    }

    int torn() {
        return torn;
    }

    int count(int what) {
        if (what == 0) return (images[0] == null ? 0 : 1) + (images[1] == null ? 0 : 1);
        if (what == 1) return tape.length();
        if (what == 2) return sheets[0] == null ? NONE : sheets[0].length;
        if (what != 3) return BAD;
        return told.names.stream().filter(n -> n.kind.equals("num")).mapToInt(n -> n.figure).sum();
    }
}
