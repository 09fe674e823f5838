/** Promises 6 to 11: rule, block, pred, name, operand, seen. */
public final class ShapeTest {
    private static final String LOOP = "block;num 1;arg 0;num 1;goto 1;block;phi 0 8;phi 2 9;less 3 1;if 5 2 3;"
        + "block;num 2;num 1;add 3 7;add 7 4;goto 1;block;add 3 4;ret 10;";
    // 0 -> 2, 1; 2 -> 3; 1 -> 3; 3 -> 4; 4 -> 4, 5; block 5 has no name
    private static final String MEET = "block;arg 2;num 99;if 0 2 1;block;neg 0;goto 3;block;goto 3;"
        + "block;phi 2 1;goto 4;block;phi 3 5;mul 4 4;if 5 4 5;block;ret 5;";

    public static void main(String[] args) {
        loopRules();
        loopBlocks();
        loopNames();
        meetBlocks();
        seenNames();
        laterDominators();
        firstNameWithOperands();
        behindSweep();
        asMuchAsMayBe();
        wrongNumbers();
        Check.finish();
    }

    private static long[] rules(ValueNumberer x) {
        long[] row = new long[5];
        for (int i = 0; i < row.length; i++) row[i] = x.rule(i);
        return row;
    }

    private static long[] blockRow(ValueNumberer x, int b) {
        long[] row = new long[9];
        for (int i = 0; i < row.length; i++) row[i] = x.block(b, i);
        return row;
    }

    private static long[] nameRow(ValueNumberer x, int n) {
        long[] row = new long[5];
        for (int i = 0; i < row.length; i++) row[i] = x.name(n, i);
        return row;
    }

    private static void loopRules() {
        ValueNumberer x = Check.taken(LOOP, 11);
        Check.dueRow("rule", rules(x), 4, 11, 0, 2, 14);
        Check.dueRow("rule of MEET", rules(Check.taken(MEET, 6)), 6, 6, 0, 2, 10);
        Check.dueRow("rule of no names", rules(Check.taken("block;goto 1;block;goto 1;", 0)), 2, 0, 0, 0, 0);
    }

    private static void loopBlocks() {
        ValueNumberer x = Check.taken(LOOP, 11);
        Check.dueRow("block 0", blockRow(x, 0), 0, 3, 0, 1, -4, -4, 0, 1, -4);
        Check.dueRow("block 1", blockRow(x, 1), 3, 3, 1, 2, 3, 5, 2, 3, 0);
        Check.dueRow("block 2", blockRow(x, 2), 6, 4, 0, 1, -4, -4, 1, 7, 1);
        Check.dueRow("block 3", blockRow(x, 3), 10, 1, 2, -4, -4, 10, 1, 11, 1);
        Check.due("pred(1, 0)", x.pred(1, 0), 0);
        Check.due("pred(1, 1)", x.pred(1, 1), 2);
        Check.due("pred(1, 2)", x.pred(1, 2), -1);
        Check.due("pred(2, 0)", x.pred(2, 0), 1);
        Check.due("pred(0, 0)", x.pred(0, 0), -1);
    }

    private static void loopNames() {
        ValueNumberer x = Check.taken(LOOP, 11);
        Check.dueRow("name 0", nameRow(x, 0), 0, 0, 0, 1, 1);
        Check.dueRow("name 1", nameRow(x, 1), 1, 0, 0, 0, 1);
        Check.dueRow("name 3", nameRow(x, 3), 7, 1, 2, -4, 3);
        Check.dueRow("name 4", nameRow(x, 4), 7, 1, 2, -4, 2);
        Check.dueRow("name 5", nameRow(x, 5), 5, 1, 2, -4, 1);
        Check.dueRow("name 7", nameRow(x, 7), 0, 2, 0, 1, 2);
        Check.dueRow("name 8", nameRow(x, 8), 2, 2, 2, -4, 1);
        Check.dueRow("name 10", nameRow(x, 10), 2, 3, 2, -4, 1);
        Check.due("operand(3, 0)", x.operand(3, 0), 0);
        Check.due("operand(3, 1)", x.operand(3, 1), 8);
        Check.due("operand(3, 2)", x.operand(3, 2), -1);
        Check.due("operand(3, -1)", x.operand(3, -1), -1);
        Check.due("operand(5, 0)", x.operand(5, 0), 3);
        Check.due("operand(5, 1)", x.operand(5, 1), 1);
        Check.due("operand(0, 0)", x.operand(0, 0), -1);
        ValueNumberer y = Check.taken("block;num 99;arg 3;neg 1;mul 2 2;div 3 0;ret 3;", 5);
        Check.dueRow("num void", nameRow(y, 0), 0, 0, 0, 99, 1);
        Check.dueRow("arg 3", nameRow(y, 1), 1, 0, 0, 3, 1);
        Check.dueRow("neg", nameRow(y, 2), 4, 0, 1, -4, 2);
        Check.dueRow("mul", nameRow(y, 3), 3, 0, 2, -4, 2);
        Check.dueRow("div", nameRow(y, 4), 6, 0, 2, -4, 0);
    }

    private static void meetBlocks() {
        ValueNumberer x = Check.taken(MEET, 6);
        Check.dueRow("block 0", blockRow(x, 0), 0, 2, 1, 2, 1, 0, 0, 1, -4);
        Check.dueRow("block 1", blockRow(x, 1), 2, 1, 0, 3, -4, -4, 1, 3, 0);
        Check.dueRow("block 2", blockRow(x, 2), -4, 0, 0, 3, -4, -4, 1, 5, 0);
        Check.dueRow("block 3", blockRow(x, 3), 3, 1, 0, 4, -4, -4, 2, 9, 0);
        Check.dueRow("block 4", blockRow(x, 4), 4, 2, 1, 4, 5, 5, 2, 25, 3);
        Check.dueRow("block 5", blockRow(x, 5), -4, 0, 2, -4, -4, 5, 1, 57, 4);
        Check.due("pred(3, 0)", x.pred(3, 0), 1);
        Check.due("pred(3, 1)", x.pred(3, 1), 2);
        Check.due("pred(4, 0)", x.pred(4, 0), 3);
        Check.due("pred(4, 1)", x.pred(4, 1), 4);
        ValueNumberer y = Check.taken("block;num 1;if 0 1 1;block;ret 0;", 1);
        Check.due("a pred that tells it twice", y.block(1, 6), 1);
        Check.due("pred(1, 0)", y.pred(1, 0), 0);
        Check.due("pred(1, 1)", y.pred(1, 1), -1);
        Check.due("used by if and ret", y.name(0, 4), 2);
    }

    private static void seenNames() {
        ValueNumberer x = Check.taken(MEET, 6);
        Check.due("seen(0, 1)", x.seen(0, 1), 1);
        Check.due("seen(1, 0)", x.seen(1, 0), 0);
        Check.due("seen(0, 0)", x.seen(0, 0), 0);
        Check.due("seen(0, 2)", x.seen(0, 2), 1);
        Check.due("seen(2, 0)", x.seen(2, 0), 0);
        Check.due("seen(2, 3)", x.seen(2, 3), 0);
        Check.due("seen(3, 5)", x.seen(3, 5), 1);
        Check.due("seen(4, 5)", x.seen(4, 5), 1);
        Check.due("seen(5, 4)", x.seen(5, 4), 0);
        Check.due("seen(6, 0)", x.seen(6, 0), -1);
        Check.due("seen(0, 6)", x.seen(0, 6), -1);
        Check.due("seen(-1, 0)", x.seen(-1, 0), -1);
        Check.due("seen(0, -1)", x.seen(0, -1), -1);
    }

    private static void laterDominators() {
        ValueNumberer x = Check.taken("block;goto 2;block;add 1 1;ret 0;block;num 4;goto 1;", 2);
        Check.due("seen(1, 0)", x.seen(1, 0), 1);
        Check.due("seen(0, 1)", x.seen(0, 1), 0);
        Check.due("block(1, 7)", x.block(1, 7), 7);
        Check.due("block(1, 8)", x.block(1, 8), 2);
        Check.due("block(2, 7)", x.block(2, 7), 5);
        Check.due("block(2, 8)", x.block(2, 8), 0);
        ValueNumberer y = Check.taken("block;goto 3;block;goto 2;block;goto 4;block;goto 1;block;goto 1;", 0);
        int[] nearest = {-4, 3, 1, 0, 2};
        for (int b = 0; b < nearest.length; b++) Check.due("nearest of " + b, y.block(b, 8), nearest[b]);
    }

    private static void firstNameWithOperands() {
        ValueNumberer x = Check.taken("block;goto 2;block;add 1 2;goto 3;block;num 4;num 4;if 1 1 3;block;ret 1;", 3);
        Check.due("operands", x.rule(4), 4);
        Check.due("uses", x.name(1, 4), 3);
        Check.due("uses of the other", x.name(2, 4), 1);
        Check.due("replace()", x.replace(), 1);
        Check.due("operand(0, 1)", x.operand(0, 1), 1);
        x.alter(1, 0);
        Check.due("run", x.run(0, 0, 0, 0), 0);
        Check.due("name 0 got none", x.value(0), 2000000000000L);
        x.alter(1, 1);
        Check.due("run by block 1", x.run(0, 0, 0, 0), 1);
        Check.due("name 0 got one", x.value(0), 2);
        x.alter(1, 0);
        Check.due("run past block 1", x.run(0, 0, 0, 0), 0);
        Check.due("name 0 got none again", x.value(0), 2000000000000L);
    }

    private static void behindSweep() {
        ValueNumberer x = Check.taken("block;num 3;neg 0;arg 1;ret 0;", 3);
        Check.due("sweep()", x.sweep(), 2);
        Check.dueRow("rule", rules(x), 1, 3, 2, 0, 1);
        Check.dueRow("name 1", nameRow(x, 1), 8, 0, 0, -4, 0);
        Check.dueRow("name 2", nameRow(x, 2), 8, 0, 0, -4, 0);
        Check.due("names of the block", x.block(0, 1), 3);
        Check.due("operand(1, 0)", x.operand(1, 0), -1);
        Check.due("seen(1, 2)", x.seen(1, 2), 1);
    }

    private static void asMuchAsMayBe() {
        // six blocks, five of them lead to block 1 and block 1 itself; twenty names
        ValueNumberer x = Check.taken("block;num1;goto1;block;phi0 0 1 2 3 19;phi0 1 2 2 2 2;phi0 2 1 2 2 2;if0 1 2;block;if0 1 3;"
            + "block;if0 1 4;block;if0 1 5;block;" + "num7;".repeat(14) + "neg1;neg2;goto1;", 20);
        Check.dueRow("rule", rules(x), 6, 20, 0, 3, 24);
        Check.dueRow("block 1", blockRow(x, 1), 1, 3, 1, 1, 2, 0, 6, 3, 0);
        Check.dueRow("block 5", blockRow(x, 5), 4, 16, 0, 1, -4, -4, 1, 63, 4);
        Check.due("pred(1, 5)", x.pred(1, 5), 5);
        Check.due("operand(1, 5)", x.operand(1, 5), 19);
        Check.due("operand(1, 6)", x.operand(1, 6), -1);
        Check.dueRow("name 19", nameRow(x, 19), 4, 5, 1, -4, 1);
        Check.due("classes(0)", x.classes(0), 7);
        Check.due("classes(1)", x.classes(1), 2);
        Check.due("classes(2)", x.classes(2), 14);
        Check.due("leader(19)", x.leader(19), 19);
        Check.due("form(19)", x.form(19), 19);
        Check.due("set(1, 5, 18)", x.set(1, 5, 18), 19);
        Check.due("count(3)", x.count(3), 99);
        Check.due("run", x.run(0, 0, 0, 0), 2000000000000L);
        Check.due("went(0)", x.went(0), 200);
        Check.due("agree", x.agree(1, 2, 0, 1, 1), 0);
        Check.due("alter", x.alter(0, 0), 1);
        Check.due("run by all blocks", x.run(0, 0, 0, 0), 2000000000000L);
        Check.due("values", x.went(1), 1 + 40 * 3 + 39 * 16);
        Check.due("the last of them", x.value(19), 0);
        Check.due("replace()", x.replace(), 0);
        Check.due("keep", x.keep(0), 0);
        Check.due("back", x.back(0), 20);
    }

    private static void wrongNumbers() {
        ValueNumberer x = Check.taken(LOOP, 11);
        int[] wild = {Integer.MIN_VALUE, -1, 1000, Integer.MAX_VALUE};
        for (int w : wild) {
            Check.due("rule " + w, x.rule(w), -1);
            Check.due("block of " + w, x.block(w, 0), -1);
            Check.due("block what " + w, x.block(0, w), -1);
            Check.due("pred of " + w, x.pred(w, 0), -1);
            Check.due("pred i " + w, x.pred(1, w), -1);
            Check.due("name of " + w, x.name(w, 0), -1);
            Check.due("name what " + w, x.name(0, w), -1);
            Check.due("operand of " + w, x.operand(w, 0), -1);
            Check.due("operand i " + w, x.operand(3, w), -1);
        }
        Check.due("rule(5)", x.rule(5), -1);
        Check.due("block(4, 0)", x.block(4, 0), -1);
        Check.due("block(0, 9)", x.block(0, 9), -1);
        Check.due("name(11, 0)", x.name(11, 0), -1);
        Check.due("name(0, 5)", x.name(0, 5), -1);
        Check.due("operand(11, 0)", x.operand(11, 0), -1);
    }
}
