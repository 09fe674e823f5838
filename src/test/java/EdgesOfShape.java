/** Boundaries of blocks and names ("Terms"), and of promises 6 to 11. */
final class EdgesOfShape {
    // 0 -> 2, 1; 2 -> 3; 1 -> 3; 3 -> 4; 4 -> 4, 5; block 5 has no name
    private static final String MEET = "block;arg 2;num 99;if 0 2 1;block;neg 0;goto 3;block;goto 3;"
        + "block;phi 2 1;goto 4;block;phi 3 5;mul 4 4;if 5 4 5;block;ret 5;";
    private static final String SIX = "block;goto1;block;goto2;block;goto3;block;goto4;block;goto5;block;goto1;";
    // block 1 has six preds, itself one of them
    private static final String STAR = "block;num 1;goto 1;block;phi 0 0 0 0 0 1;if 0 1 2;block;if 0 1 3;block;if 0 1 4;"
        + "block;if 0 1 5;block;goto 1;";

    private EdgesOfShape() {
    }

    static void all() {
        blocksAndNames();
        figures();
        ends();
        preds();
        dominators();
        seenNames();
        rules();
        badRules();
        blockAnswers();
        badBlocks();
        predAnswers();
        badPreds();
        nameAnswers();
        badNames();
        operandAnswers();
        badOperands();
        seenAnswers();
        badSeen();
    }

    private static void blocksAndNames() {
        Check.sentence("Terms", "BLOCKS 0 on (6 at most), by order, NAMES 0 on (20 at most), numbered as told, each in a BLOCK, "
            + "of a KIND (0 num, 1 arg, 2 add, 3 mul, 4 neg, 5 less, 6 div, 7 phi, 8 gone), with OPERANDS, which are NAMES: "
            + "num, arg, gone none, neg one, add, mul, less, div two, phi one of each PRED.");
        Check.due("five BLOCKS", Check.taken(SIX.substring(0, 48) + "block;goto1;", 0).rule(0), 5);
        ValueNumberer x = Check.taken(SIX, 0);
        Check.due("six BLOCKS", x.rule(0), 6);
        Check.due("the last", x.block(5, 3), 1);
        Check.due("one more is none", x.block(6, 3), -1);
        Check.refused(SIX + "block;goto1;", 5, 72);
        for (int n = 19; n <= 20; n++) {
            x = Check.taken("block;" + "num1;".repeat(n - 1) + "arg3;ret 0;", n);
            Check.due("the last", x.name(n - 1, 3), 3);
            Check.due("one more is none", x.name(n, 3), -1);
        }
        Check.refused("block;" + "num1;".repeat(20) + "arg3;ret 0;", 5, 106);
        x = Check.taken("block;num 1;arg 0;add 0 1;mul 0 1;neg 0;less 0 1;div 0 1;goto 1;block;phi 0;num 2;ret 7;", 9);
        int[] counts = {0, 0, 2, 2, 1, 2, 2, 1, 0};
        for (int n = 0; n <= 7; n++) {
            Check.due("KIND of " + n, x.name(n, 0), n);
            Check.due("BLOCK of " + n, x.name(n, 1), n == 7 ? 1 : 0);
            Check.due("OPERANDS of " + n, x.name(n, 2), counts[n]);
        }
        Check.due("sweep()", x.sweep(), 7);
        Check.due("gone", x.name(6, 0), 8);
        Check.due("OPERANDS of one that is gone", x.name(6, 2), 0);
        Check.due("six OPERANDS of a phi with six PREDS", Check.taken(STAR, 2).name(1, 2), 6);
    }

    private static void figures() {
        Check.sentence("Terms", "A num has a NUMBER (0 to 98, or VOID, told as 99), an arg an ARGUMENT (0 to 3).");
        for (int v : new int[] {0, 1, 97, 98}) Check.due("NUMBER " + v, Check.taken("block;num " + v + ";ret 0;", 1).run(5, 5, 5, 5), v);
        Check.due("VOID", Check.taken("block;num 99;ret 0;", 1).run(5, 5, 5, 5), 1000000000000L);
        Check.due("told as 99", Check.taken("block;num 99;ret 0;", 1).name(0, 3), 99);
        Check.refused("block;num 100;ret 0;", 1, 10);
        for (int a = 0; a <= 3; a++) Check.due("ARGUMENT " + a, Check.taken("block;arg " + a + ";ret 0;", 1).run(50, 51, 52, 53), 50 + a);
        Check.refused("block;arg 4;ret 0;", 3, 10);
    }

    private static void ends() {
        Check.sentence("Terms", "END of a BLOCK: goto a BLOCK; if a NAME, one BLOCK, or else another; ret a NAME.");
        ValueNumberer x = Check.taken("block;arg 0;goto 1;block;if 0 2 3;block;ret 0;block;ret 0;", 1);
        Check.due("goto", x.block(0, 2), 0);
        Check.due("if", x.block(1, 2), 1);
        Check.due("one BLOCK", x.block(1, 3), 2);
        Check.due("or else another", x.block(1, 4), 3);
        Check.due("ret", x.block(2, 2), 2);
        Check.due("one BLOCK twice", Check.taken("block;arg 0;if 0 1 1;block;ret 0;", 1).block(0, 4), 1);
    }

    private static void preds() {
        Check.sentence("Terms", "PREDS of a BLOCK: the BLOCKS whose END tells it, by order, each once.");
        ValueNumberer x = Check.taken(MEET, 6);
        int[] counts = {0, 1, 1, 2, 2, 1};
        for (int b = 0; b < 6; b++) Check.due("PREDS of " + b, x.block(b, 6), counts[b]);
        Check.due("the first of block 3", x.pred(3, 0), 1);
        Check.due("the second, though it is led to first", x.pred(3, 1), 2);
        ValueNumberer y = Check.taken("block;num 1;if 0 1 1;block;if 0 1 1;", 1);
        Check.due("each once", y.block(1, 6), 2);
        Check.due("block 0", y.pred(1, 0), 0);
        Check.due("itself", y.pred(1, 1), 1);
        ValueNumberer z = Check.taken(STAR, 2);
        Check.due("six", z.block(1, 6), 6);
        for (int i = 0; i < 6; i++) Check.due("PRED " + i, z.pred(1, i), i);
    }

    private static void dominators() {
        Check.sentence("Terms", "A BLOCK DOMINATES another, if all ways from BLOCK 0 to that one lead by it; itself, too.");
        ValueNumberer x = Check.taken(MEET, 6);
        int[] bits = {1, 3, 5, 9, 25, 57};
        for (int b = 0; b < 6; b++) Check.due("what DOMINATES " + b, x.block(b, 7), bits[b]);
        Check.due("block 0 alone", Check.taken("block;num 1;ret 0;", 1).block(0, 7), 1);
        ValueNumberer y = Check.taken(SIX, 0);
        for (int b = 0; b < 6; b++) Check.due("in a row, " + b, y.block(b, 7), (2 << b) - 1);
        // the same row with one way past block 1, then past block 2
        ValueNumberer z = Check.taken("block;num 1;if 0 1 2;block;goto 2;block;goto 3;block;ret 0;", 1);
        Check.due("past block 1", z.block(3, 7), 13);
        z = Check.taken("block;num 1;goto 1;block;if 0 2 3;block;goto 3;block;ret 0;", 1);
        Check.due("past block 2", z.block(3, 7), 11);
        Check.due("a later block DOMINATES an earlier", Check.taken("block;goto 2;block;goto 1;block;goto 1;", 0).block(1, 7), 7);
    }

    private static void seenNames() {
        Check.sentence("Terms", "A NAME n is SEEN at a NAME m, if it is ahead of it in its BLOCK, or in another BLOCK that DOMINATES that "
            + "of m; at an END, if its BLOCK DOMINATES that one.");
        ValueNumberer x = Check.taken("block;num 1;num 1;num 1;if 0 1 2;block;num 1;goto 2;block;num 1;ret 0;", 5);
        Check.due("just ahead", x.seen(0, 1), 1);
        Check.due("itself", x.seen(1, 1), 0);
        Check.due("just behind", x.seen(2, 1), 0);
        Check.due("in another BLOCK that DOMINATES", x.seen(2, 3), 1);
        Check.due("in one that is DOMINATED", x.seen(3, 2), 0);
        Check.due("ahead, but past", x.seen(3, 4), 0);
        Check.due("past two", x.seen(2, 4), 1);
        // at an end: the last of its own block, of one that dominates, of one that does not
        Check.taken("block;num 1;num 1;ret 1;", 2);
        Check.taken("block;num 1;goto 1;block;ret 0;", 1);
        Check.refused("block;num 1;if 0 1 2;block;num 1;goto 2;block;ret 1;", 6, 52);
        ValueNumberer y = Check.taken("block;goto 2;block;num 1;ret 1;block;num 1;goto 1;", 2);
        Check.due("of a later number, but ahead", y.seen(1, 0), 1);
        Check.due("of a lower number, but behind", y.seen(0, 1), 0);
    }

    // ---- Promises 6 to 11

    private static void rules() {
        Check.sentence("Promise 6", "How many: 0 BLOCKS, 1 NAMES, 2 that are gone, 3 phi, 4 OPERANDS of all, those of if, ret too.");
        ValueNumberer x = new ValueNumberer();
        for (int what = 0; what <= 4; what++) Check.due("of none " + what, x.rule(what), 0);
        dueRules(Check.taken("block;goto 1;block;goto 1;", 0), 2, 0, 0, 0, 0);
        dueRules(Check.taken("block;num 1;ret 0;", 1), 1, 1, 0, 0, 1);
        dueRules(Check.taken("block;num 1;if 0 1 1;block;goto 1;", 1), 2, 1, 0, 0, 1);
        dueRules(Check.taken(STAR, 2), 6, 2, 0, 1, 10);
        dueRules(Check.taken("block;" + "num1;".repeat(20) + "ret 0;", 20), 1, 20, 0, 0, 1);
        ValueNumberer y = Check.taken("block;num 1;num 2;neg 1;goto 1;block;phi 0;phi 1;ret 3;", 5);
        dueRules(y, 2, 5, 0, 2, 4);
        Check.due("sweep()", y.sweep(), 3);
        dueRules(y, 2, 5, 3, 1, 2);
        dueRules(Check.taken("block;goto 2;block;add 1 1;ret 0;block;num 4;goto 1;", 2), 3, 2, 0, 0, 3);
        // as many phis as there may be: 19 with two operands each
        ValueNumberer z = Check.taken("block;num1;goto1;block;" + "phi0 0;".repeat(19) + "goto1;", 20);
        dueRules(z, 2, 20, 0, 19, 38);
        Check.due("sweep() of all", z.sweep(), 20);
        dueRules(z, 2, 20, 20, 0, 0);
    }

    private static void dueRules(ValueNumberer x, int... want) {
        for (int what = 0; what < want.length; what++) Check.due("rule " + what, x.rule(what), want[what]);
    }

    private static void badRules() {
        Check.sentence("Promise 6", "BAD.");
        ValueNumberer x = Check.taken("block;num 1;ret 0;", 1);
        Check.due("rule(-1)", x.rule(-1), -1);
        Check.due("rule(0)", x.rule(0), 1);
        Check.due("rule(4)", x.rule(4), 1);
        Check.due("rule(5)", x.rule(5), -1);
        Check.due("rule(MIN)", x.rule(Integer.MIN_VALUE), -1);
        Check.due("rule(MAX)", x.rule(Integer.MAX_VALUE), -1);
    }

    private static void blockAnswers() {
        Check.sentence("Promise 7", "Of a BLOCK: 0 its first NAME (NONE), 1 how many it has, 2 its END (0 goto, 1 if, 2 ret), 3 its first "
            + "BLOCK (NONE), 4 its second one (NONE), 5 its NAME (NONE), 6 how many PREDS, 7 which BLOCKS DOMINATE it (bits), "
            + "8 the nearest other one that does (NONE).");
        ValueNumberer x = Check.taken(MEET, 6);
        dueBlock(x, 0, 0, 2, 1, 2, 1, 0, 0, 1, -4);
        dueBlock(x, 1, 2, 1, 0, 3, -4, -4, 1, 3, 0);
        dueBlock(x, 2, -4, 0, 0, 3, -4, -4, 1, 5, 0);
        dueBlock(x, 3, 3, 1, 0, 4, -4, -4, 2, 9, 0);
        dueBlock(x, 4, 4, 2, 1, 4, 5, 5, 2, 25, 3);
        dueBlock(x, 5, -4, 0, 2, -4, -4, 5, 1, 57, 4);
        dueBlock(Check.taken(STAR, 2), 1, 1, 1, 1, 1, 2, 0, 6, 3, 0);
        dueBlock(Check.taken("block;" + "num1;".repeat(20) + "ret19;", 20), 0, 0, 20, 2, -4, -4, 19, 0, 1, -4);
        dueBlock(Check.taken("block;goto1;block;" + "num1;".repeat(20) + "goto1;", 20), 0, -4, 0, 0, 1, -4, -4, 0, 1, -4);
        // the last NAME is the first of its BLOCK
        dueBlock(Check.taken("block;" + "num1;".repeat(19) + "goto1;block;num1;ret19;", 20), 1, 19, 1, 2, -4, -4, 19, 1, 3, 0);
        // the nearest is not the one of the highest number
        ValueNumberer y = Check.taken("block;goto 3;block;goto 2;block;goto 4;block;goto 1;block;goto 1;", 0);
        int[] nearest = {-4, 3, 1, 0, 2};
        for (int b = 0; b < nearest.length; b++) Check.due("nearest of " + b, y.block(b, 8), nearest[b]);
        ValueNumberer z = Check.taken("block;num 1;neg 0;ret 0;", 2);
        Check.due("sweep()", z.sweep(), 1);
        dueBlock(z, 0, 0, 2, 2, -4, -4, 0, 0, 1, -4);
    }

    private static void dueBlock(ValueNumberer x, int b, int... want) {
        for (int what = 0; what < want.length; what++) Check.due("block(" + b + ", " + what + ")", x.block(b, what), want[what]);
    }

    private static void badBlocks() {
        Check.sentence("Promise 7", "BAD.");
        ValueNumberer x = Check.taken(SIX, 0);
        Check.due("block(-1, 1)", x.block(-1, 1), -1);
        Check.due("block(0, 1)", x.block(0, 1), 0);
        Check.due("block(5, 1)", x.block(5, 1), 0);
        Check.due("block(6, 1)", x.block(6, 1), -1);
        Check.due("block(0, -1)", x.block(0, -1), -1);
        Check.due("block(1, 8)", x.block(1, 8), 0);
        Check.due("block(1, 9)", x.block(1, 9), -1);
        ValueNumberer y = Check.taken("block;num 1;goto 1;block;ret 0;", 1);
        Check.due("block(1, 1)", y.block(1, 1), 0);
        Check.due("block(2, 1)", y.block(2, 1), -1);
        for (int w : new int[] {Integer.MIN_VALUE, Integer.MAX_VALUE}) {
            Check.due("block of " + w, y.block(w, 1), -1);
            Check.due("block what " + w, y.block(0, w), -1);
        }
    }

    private static void predAnswers() {
        Check.sentence("Promise 8", "The i-th PRED of a BLOCK.");
        ValueNumberer x = Check.taken(MEET, 6);
        int[][] want = {{}, {0}, {0}, {1, 2}, {3, 4}, {4}};
        for (int b = 0; b < 6; b++) {
            for (int i = 0; i < want[b].length; i++) Check.due("pred(" + b + ", " + i + ")", x.pred(b, i), want[b][i]);
        }
    }

    private static void badPreds() {
        Check.sentence("Promise 8", "BAD.");
        ValueNumberer x = Check.taken(MEET, 6);
        int[] counts = {0, 1, 1, 2, 2, 1};
        for (int b = 0; b < 6; b++) {
            Check.due("pred(" + b + ", -1)", x.pred(b, -1), -1);
            Check.due("pred(" + b + ", one more)", x.pred(b, counts[b]), -1);
        }
        Check.due("pred(-1, 0)", x.pred(-1, 0), -1);
        Check.due("pred(6, 0)", x.pred(6, 0), -1);
        ValueNumberer y = Check.taken(STAR, 2);
        Check.due("pred(1, 5)", y.pred(1, 5), 5);
        Check.due("pred(1, 6)", y.pred(1, 6), -1);
        for (int w : new int[] {Integer.MIN_VALUE, Integer.MAX_VALUE}) {
            Check.due("pred of " + w, y.pred(w, 0), -1);
            Check.due("pred i " + w, y.pred(1, w), -1);
        }
    }

    private static void nameAnswers() {
        Check.sentence("Promise 9", "Of a NAME: 0 KIND, 1 its BLOCK, 2 how many OPERANDS, 3 NUMBER (VOID as 99), ARGUMENT "
            + "(NONE: it is neither), 4 how many times it is an OPERAND, that of if, ret too.");
        ValueNumberer x = Check.taken("block;num 0;num 98;num 99;arg 0;arg 3;neg 0;add 0 0;mul 1 0;less 0 1;div 2 2;if 0 1 1;"
            + "block;phi 9;if 0 2 2;block;ret 0;", 11);
        dueName(x, 0, 0, 0, 0, 0, 8);
        dueName(x, 1, 0, 0, 0, 98, 2);
        dueName(x, 2, 0, 0, 0, 99, 2);
        dueName(x, 3, 1, 0, 0, 0, 0);
        dueName(x, 4, 1, 0, 0, 3, 0);
        dueName(x, 5, 4, 0, 1, -4, 0);
        dueName(x, 6, 2, 0, 2, -4, 0);
        dueName(x, 7, 3, 0, 2, -4, 0);
        dueName(x, 8, 5, 0, 2, -4, 0);
        dueName(x, 9, 6, 0, 2, -4, 1);
        dueName(x, 10, 7, 1, 1, -4, 0);
        Check.due("sweep()", x.sweep(), 10);
        dueName(x, 0, 0, 0, 0, 0, 3);
        dueName(x, 1, 8, 0, 0, -4, 0);
        dueName(x, 4, 8, 0, 0, -4, 0);
        dueName(x, 10, 8, 1, 0, -4, 0);
        // in the last BLOCK
        dueName(Check.taken(SIX.substring(0, 60) + "block;num 98;goto 1;", 1), 0, 0, 5, 0, 98, 0);
        // the first NAME is one with OPERANDS
        ValueNumberer y = Check.taken("block;goto 2;block;add 2 1;ret 0;block;num 4;num 5;goto 1;", 3);
        dueName(y, 0, 2, 1, 2, -4, 1);
        dueName(y, 1, 0, 2, 0, 4, 1);
        dueName(y, 2, 0, 2, 0, 5, 1);
    }

    private static void dueName(ValueNumberer x, int n, int... want) {
        for (int what = 0; what < want.length; what++) Check.due("name(" + n + ", " + what + ")", x.name(n, what), want[what]);
    }

    private static void badNames() {
        Check.sentence("Promise 9", "BAD.");
        ValueNumberer x = Check.taken("block;" + "num1;".repeat(20) + "ret 0;", 20);
        Check.due("name(-1, 3)", x.name(-1, 3), -1);
        Check.due("name(0, 3)", x.name(0, 3), 1);
        Check.due("name(19, 3)", x.name(19, 3), 1);
        Check.due("name(20, 3)", x.name(20, 3), -1);
        Check.due("name(0, -1)", x.name(0, -1), -1);
        Check.due("name(0, 0)", x.name(0, 0), 0);
        Check.due("name(0, 4)", x.name(0, 4), 1);
        Check.due("name(0, 5)", x.name(0, 5), -1);
        ValueNumberer y = Check.taken("block;num 1;num 2;ret 0;", 2);
        Check.due("name(1, 3)", y.name(1, 3), 2);
        Check.due("name(2, 3)", y.name(2, 3), -1);
        for (int w : new int[] {Integer.MIN_VALUE, Integer.MAX_VALUE}) {
            Check.due("name of " + w, y.name(w, 0), -1);
            Check.due("name what " + w, y.name(0, w), -1);
        }
    }

    private static void operandAnswers() {
        Check.sentence("Promise 10", "The i-th OPERAND of a NAME.");
        ValueNumberer x = Check.taken("block;num 1;num 2;neg 1;add 2 1;goto 1;block;phi 3 5;neg 4;goto 1;", 6);
        Check.due("of neg", x.operand(2, 0), 1);
        Check.due("of add, 0", x.operand(3, 0), 2);
        Check.due("of add, 1", x.operand(3, 1), 1);
        Check.due("of phi, 0", x.operand(4, 0), 3);
        Check.due("of phi, 1", x.operand(4, 1), 5);
        Check.due("of a phi with six, 5", Check.taken(STAR, 2).operand(1, 5), 1);
    }

    private static void badOperands() {
        Check.sentence("Promise 10", "BAD.");
        ValueNumberer x = Check.taken("block;num 1;arg 0;neg 1;add 2 1;goto 1;block;phi 3 5;neg 4;goto 1;", 6);
        int[] counts = {0, 0, 1, 2, 2, 1};
        for (int n = 0; n < 6; n++) {
            Check.due("operand(" + n + ", -1)", x.operand(n, -1), -1);
            Check.due("operand(" + n + ", one more)", x.operand(n, counts[n]), -1);
        }
        Check.due("operand(-1, 0)", x.operand(-1, 0), -1);
        Check.due("operand(6, 0)", x.operand(6, 0), -1);
        Check.due("of a phi with six, 6", Check.taken(STAR, 2).operand(1, 6), -1);
        for (int w : new int[] {Integer.MIN_VALUE, Integer.MAX_VALUE}) {
            Check.due("operand of " + w, x.operand(w, 0), -1);
            Check.due("operand i " + w, x.operand(3, w), -1);
        }
        ValueNumberer y = Check.taken("block;num 1;neg 0;add 0 0;ret 0;", 3);
        Check.due("sweep()", y.sweep(), 2);
        Check.due("of one that is gone", y.operand(1, 0), -1);
        Check.due("of another", y.operand(2, 1), -1);
    }

    private static void seenAnswers() {
        Check.sentence("Promise 11", "Whether NAME n is SEEN at NAME m (1, 0).");
        ValueNumberer x = Check.taken(MEET, 6);
        int[][] want = {{0, 1, 1, 1, 1, 1}, {0, 0, 1, 1, 1, 1}, {0, 0, 0, 0, 0, 0}, {0, 0, 0, 0, 1, 1}, {0, 0, 0, 0, 0, 1},
            {0, 0, 0, 0, 0, 0}};
        for (int n = 0; n < 6; n++) {
            for (int m = 0; m < 6; m++) Check.due("seen(" + n + ", " + m + ")", x.seen(n, m), want[n][m]);
        }
    }

    private static void badSeen() {
        Check.sentence("Promise 11", "BAD.");
        ValueNumberer x = Check.taken(MEET, 6);
        for (int w : new int[] {Integer.MIN_VALUE, -1, 6, 20, Integer.MAX_VALUE}) {
            Check.due("seen(" + w + ", 5)", x.seen(w, 5), -1);
            Check.due("seen(0, " + w + ")", x.seen(0, w), -1);
        }
        Check.due("seen(5, 0)", x.seen(5, 0), 0);
        Check.due("seen(0, 5)", x.seen(0, 5), 1);
        ValueNumberer y = Check.taken("block;" + "num1;".repeat(20) + "ret0;", 20);
        Check.due("seen(18, 19)", y.seen(18, 19), 1);
        Check.due("seen(19, 18)", y.seen(19, 18), 0);
        Check.due("seen(18, 20)", y.seen(18, 20), -1);
        Check.due("seen(20, 19)", y.seen(20, 19), -1);
    }
}
