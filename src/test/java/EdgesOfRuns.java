/** Boundaries of values and runs ("Terms"), and of promises 12 to 14. */
final class EdgesOfRuns {
    private static final long VOID = 1000000000000L, NOTHING = 2000000000000L;
    private static final int MIN = -2147483648, MAX = 2147483647;
    // block 0, then one block for each turn, then the ret: as many turns as the argument, and one more
    private static final String TURNS = "block;arg 0;num 1;neg 1;goto 1;block;phi 0 4;add 3 2;if 3 1 2;block;ret 3;";

    private EdgesOfRuns() {
    }

    static void all() {
        values();
        begin();
        phisAtOnce();
        numbersAndArguments();
        beyondLost();
        less();
        div();
        voidOperands();
        choice();
        told();
        blocks200();
        withoutBlocks();
        runAnswers();
        valueAnswers();
        valuesWithoutRun();
        badValues();
        wentAnswers();
        badWent();
    }

    private static long of(String op, int a, int b) {
        ValueNumberer x = Check.taken("block;arg 0;arg 1;" + op + ";ret 2;", 3);
        return x.run(a, b, 0, 0);
    }

    private static void dueOf(String op, int a, int b, long want) {
        Check.due(op + " of " + a + ", " + b, of(op, a, b), want);
    }

    private static void values() {
        Check.sentence("Terms", "VALUES are whole numbers of 32 bits, or VOID.");
        ValueNumberer x = Check.taken("block;arg 0;ret 0;", 1);
        for (int v : new int[] {MIN, MIN + 1, -1, 0, 1, MAX - 1, MAX}) Check.due("value", x.run(v, 0, 0, 0), v);
        Check.due("VOID", Check.taken("block;num 99;ret 0;", 1).run(0, 0, 0, 0), VOID);
        Check.due("98 is none", Check.taken("block;num 98;ret 0;", 1).run(0, 0, 0, 0), 98);
    }

    private static void begin() {
        Check.sentence("Terms", "A RUN with four arguments begins at BLOCK 0 (with no VALUES).");
        ValueNumberer x = Check.taken("block;arg 0;if 0 1 2;block;arg 1;ret 1;block;arg 2;ret 2;", 3);
        Check.due("by block 1", x.run(1, 5, 6, 7), 5);
        Check.due("name 1", x.value(1), 5);
        Check.due("name 2", x.value(2), NOTHING);
        Check.due("by block 2", x.run(0, 5, 6, 7), 6);
        Check.due("name 1 has none of the RUN before", x.value(1), NOTHING);
        Check.due("name 2 then", x.value(2), 6);
        Check.due("BLOCKS", x.went(0), 2);
        ValueNumberer z = Check.taken("block;goto 2;block;num 7;ret 0;block;arg 0;if 1 1 3;block;ret 1;", 2);
        Check.due("by block 1", z.run(1, 0, 0, 0), 7);
        Check.due("the first NAME", z.value(0), 7);
        Check.due("past block 1", z.run(0, 0, 0, 0), 0);
        Check.due("the first NAME has none of the RUN before", z.value(0), NOTHING);
        ValueNumberer y = Check.taken("block;arg 0;arg 1;arg 2;arg 3;ret 3;", 4);
        Check.due("the fourth", y.run(1, 2, 3, 4), 4);
        for (int n = 0; n < 4; n++) Check.due("argument " + n, y.value(n), n + 1);
    }

    private static void phisAtOnce() {
        Check.sentence("Terms", "In a BLOCK all its phi get at once the VALUES that their OPERANDS of the PRED by which one comes have;");
        // they change places in each turn, whichever is told first
        ValueNumberer x = Check.taken("block;num 1;num 2;arg 0;num 1;neg 3;goto 1;"
            + "block;phi 0 6;phi 1 5;phi 2 8;add 7 4;if 7 1 2;block;ret 5;", 9);
        Check.due("one turn", x.run(0, 0, 0, 0), 1);
        Check.due("the other", x.value(6), 2);
        Check.due("two turns", x.run(1, 0, 0, 0), 2);
        Check.due("the other", x.value(6), 1);
        Check.due("three turns", x.run(2, 0, 0, 0), 1);
        Check.due("the other", x.value(6), 2);
        // a name behind them has its value of the turn before
        Check.due("of the turn before", x.value(7), 0);
        ValueNumberer y = Check.taken("block;arg 0;num 5;if 0 3 1;block;num 6;goto 2;block;phi 2 1;ret 3;block;goto 2;", 4);
        Check.due("by the second PRED", y.run(1, 0, 0, 0), 5);
        Check.due("by the first PRED", y.run(0, 0, 0, 0), 6);
        // the chain of a phi into another is one turn late
        ValueNumberer z = Check.taken("block;arg 0;num 7;num 1;neg 2;goto 1;block;phi 1 4;phi 2 4;phi 0 7;add 6 3;if 6 1 2;block;ret 5;", 8);
        Check.due("first turn", z.run(0, 0, 0, 0), 1);
        Check.due("second turn", z.run(1, 0, 0, 0), 7);
    }

    private static void numbersAndArguments() {
        Check.sentence("Terms", "then each other NAME of it by order: num its NUMBER; arg that argument;");
        ValueNumberer x = Check.taken("block;num 0;num 98;num 99;arg 0;arg 3;neg 4;neg 5;ret 6;", 7);
        Check.due("by order", x.run(MIN, 8, 9, MAX), MAX);
        long[] want = {0, 98, VOID, MIN, MAX, -MAX, MAX};
        for (int n = 0; n < 7; n++) Check.due("value(" + n + ")", x.value(n), want[n]);
    }

    private static void beyondLost() {
        Check.sentence("Terms", "add, mul, neg by 32 bits, what is beyond lost;");
        dueOf("add 0 1", MAX, 0, 2147483647L);
        dueOf("add 0 1", MAX, 1, -2147483648L);
        dueOf("add 0 1", MAX, -1, 2147483646L);
        dueOf("add 0 1", MAX, MAX, -2L);
        dueOf("add 0 1", MIN, 0, -2147483648L);
        dueOf("add 0 1", MIN, -1, 2147483647L);
        dueOf("add 0 1", MIN, 1, -2147483647L);
        dueOf("add 0 1", MIN, MIN, 0);
        dueOf("add 0 1", MIN, MAX, -1);
        dueOf("mul 0 1", 46340, 46340, 2147395600L);
        dueOf("mul 0 1", 46341, 46341, -2147479015L);
        dueOf("mul 0 1", 65536, 32767, 2147418112L);
        dueOf("mul 0 1", 65536, 32768, -2147483648L);
        dueOf("mul 0 1", 65536, -32768, -2147483648L);
        dueOf("mul 0 1", 65536, -32769, 2147418112L);
        dueOf("mul 0 1", 65536, 65536, 0);
        dueOf("mul 0 1", MIN, -1, -2147483648L);
        dueOf("mul 0 1", MAX, MAX, 1);
        dueOf("mul 0 1", MIN, MIN, 0);
        dueOf("mul 0 1", MAX, MIN, -2147483648L);
        dueOf("neg 0", 0, 0, 0);
        dueOf("neg 0", MAX, 0, -2147483647L);
        dueOf("neg 0", MIN + 1, 0, 2147483647L);
        dueOf("neg 0", MIN, 0, -2147483648L);
    }

    private static void less() {
        Check.sentence("Terms", "less 1, if the first is less than the second, else 0;");
        dueOf("less 0 1", 6, 7, 1);
        dueOf("less 0 1", 7, 7, 0);
        dueOf("less 0 1", 8, 7, 0);
        dueOf("less 0 1", -1, 0, 1);
        dueOf("less 0 1", 0, 0, 0);
        dueOf("less 0 1", 0, -1, 0);
        dueOf("less 0 1", MIN, MAX, 1);
        dueOf("less 0 1", MAX, MIN, 0);
        dueOf("less 0 1", MIN, MIN, 0);
        dueOf("less 0 1", MIN, MIN + 1, 1);
        dueOf("less 0 1", MAX, MAX, 0);
        dueOf("less 0 1", MAX - 1, MAX, 1);
        dueOf("less 0 1", MIN, 1, 1);
        dueOf("less 0 1", 1, MIN, 0);
    }

    private static void div() {
        Check.sentence("Terms", "div the quotient (towards 0; what is beyond 32 bits lost), VOID by 0.");
        dueOf("div 0 1", 6, 2, 3);
        dueOf("div 0 1", 7, 2, 3);
        dueOf("div 0 1", -7, 2, -3);
        dueOf("div 0 1", 7, -2, -3);
        dueOf("div 0 1", -7, -2, 3);
        dueOf("div 0 1", 1, 2, 0);
        dueOf("div 0 1", -1, 2, 0);
        dueOf("div 0 1", 2, 2, 1);
        dueOf("div 0 1", -2, 2, -1);
        dueOf("div 0 1", MIN, -1, -2147483648L);
        dueOf("div 0 1", MIN + 1, -1, 2147483647L);
        dueOf("div 0 1", MIN, 1, -2147483648L);
        dueOf("div 0 1", MIN, -2, 1073741824L);
        dueOf("div 0 1", MAX, -1, -2147483647L);
        dueOf("div 0 1", MAX, MIN, 0);
        dueOf("div 0 1", MIN, MAX, -1);
        dueOf("div 0 1", MIN, MIN, 1);
        dueOf("div 0 1", 5, 1, 5);
        dueOf("div 0 1", 5, 0, VOID);
        dueOf("div 0 1", 5, -1, -5);
        dueOf("div 0 1", 0, 0, VOID);
        dueOf("div 0 1", 0, 1, 0);
        dueOf("div 0 1", MIN, 0, VOID);
        dueOf("div 0 1", MAX, 0, VOID);
    }

    private static void voidOperands() {
        Check.sentence("Terms", "Is an OPERAND VOID, so is the VALUE, but of less: that is 0 then.");
        for (String op : new String[] {"add", "mul", "less", "div"}) {
            long want = op.equals("less") ? 0 : VOID;
            String begin = "block;num 99;num 98;num 0;num 1;" + op;
            for (String two : new String[] {" 0 1", " 1 0", " 0 0", " 0 2", " 2 0", " 0 3", " 3 0"}) {
                Check.due(op + two, Check.taken(begin + two + ";ret 4;", 5).run(0, 0, 0, 0), want);
            }
        }
        Check.due("neg", Check.taken("block;num 99;neg 0;ret 1;", 2).run(0, 0, 0, 0), VOID);
        Check.due("neg of 98", Check.taken("block;num 98;neg 0;ret 1;", 2).run(0, 0, 0, 0), -98);
        Check.due("less of 97 and 98", Check.taken("block;num 97;num 98;less 0 1;ret 2;", 3).run(0, 0, 0, 0), 1);
        ValueNumberer x = Check.taken("block;arg 0;num 99;num 3;if 0 1 2;block;goto 3;block;goto 3;block;phi 1 2;ret 3;", 4);
        Check.due("phi by the way of the VOID one", x.run(1, 0, 0, 0), VOID);
        Check.due("phi by the other way", x.run(0, 0, 0, 0), 3);
        ValueNumberer y = Check.taken("block;arg 0;arg 1;div 0 1;add 2 0;neg 3;less 4 0;ret 4;", 6);
        Check.due("VOID goes on", y.run(5, 0, 0, 0), VOID);
        Check.due("but not by less", y.value(5), 0);
        Check.due("no VOID", y.run(5, 1, 0, 0), -10);
        Check.due("less", y.value(5), 1);
    }

    private static void choice() {
        Check.sentence("Terms", "END: if: the first BLOCK, if the VALUE is above 0, else (VOID, too) the second.");
        ValueNumberer x = Check.taken("block;arg 0;if 0 1 2;block;num 10;ret 1;block;num 20;ret 2;", 3);
        int[] values = {MIN, -1, 0, 1, 2, MAX};
        for (int v : values) Check.due("if " + v, x.run(v, 0, 0, 0), v > 0 ? 10 : 20);
        x = Check.taken("block;arg 0;if 0 2 1;block;num 10;ret 1;block;num 20;ret 2;", 3);
        for (int v : values) Check.due("if, the other way round, " + v, x.run(v, 0, 0, 0), v > 0 ? 20 : 10);
        for (int v : new int[] {1, 98, 99}) {
            x = Check.taken("block;num " + v + ";if 0 1 2;block;num 10;ret 1;block;num 20;ret 2;", 3);
            Check.due("if of num " + v, x.run(0, 0, 0, 0), v == 99 ? 20 : 10);
        }
    }

    private static void told() {
        Check.sentence("Terms", "ret: its VALUE is told.");
        ValueNumberer x = Check.taken("block;arg 0;arg 1;div 0 1;ret 2;", 3);
        Check.due("0", x.run(0, 1, 0, 0), 0);
        Check.due("a number", x.run(8, 2, 0, 0), 4);
        Check.due("VOID", x.run(8, 0, 0, 0), VOID);
        Check.due("the last of twenty", Check.taken("block;" + "num1;".repeat(19) + "num 7;ret 19;", 20).run(0, 0, 0, 0), 7);
    }

    private static void blocks200() {
        Check.sentence("Terms", "Behind 200 BLOCKS without ret it tells nothing.");
        ValueNumberer x = Check.taken(TURNS, 5);
        dueTurns(x, 196, 0, 199, 1);
        dueTurns(x, 197, 0, 200, 1);
        dueTurns(x, 198, NOTHING, 200, 0);
        dueTurns(x, 199, NOTHING, 200, 0);
        dueTurns(x, 200, NOTHING, 200, 0);
        Check.due("value of the last BLOCK", x.value(3), 2);
        dueTurns(x, 0, 0, 3, 1);
        ValueNumberer y = Check.taken("block;goto 1;block;goto 1;", 0);
        Check.due("no ret at all", y.run(0, 0, 0, 0), NOTHING);
        Check.due("its BLOCKS", y.went(0), 200);
        Check.due("its VALUES", y.went(1), 0);
    }

    private static void dueTurns(ValueNumberer x, int turns, long told, int blocks, int ret) {
        Check.due("run of " + turns, x.run(turns, 0, 0, 0), told);
        Check.due("BLOCKS of " + turns, x.went(0), blocks);
        Check.due("ret of " + turns, x.went(2), ret);
    }

    private static void withoutBlocks() {
        Check.sentence("Terms", "(Without BLOCKS it goes through none, and tells nothing.)");
        ValueNumberer x = new ValueNumberer();
        Check.due("run", x.run(1, 2, 3, 4), NOTHING);
        for (int what = 0; what <= 2; what++) Check.due("went " + what, x.went(what), 0);
        ValueNumberer y = Check.taken("block;arg 0;ret 0;", 1);
        Check.due("one BLOCK", y.run(4, 0, 0, 0), 4);
        Check.due("went through one", y.went(0), 1);
        Check.due("a text without BLOCKS", y.text(), 0);
        Check.due("run of it", y.run(4, 0, 0, 0), NOTHING);
        Check.due("went through none", y.went(0), 0);
    }

    // ---- Promises 12 to 14

    private static void runAnswers() {
        Check.sentence("Promise 12", "A RUN: its VALUE (VOID; NOTHING: it tells nothing).");
        ValueNumberer x = Check.taken("block;arg 0;arg 1;div 0 1;if 1 1 2;block;ret 2;block;if 1 2 1;", 3);
        Check.due("a VALUE", x.run(MIN, 1, 0, 0), MIN);
        Check.due("VOID", x.run(1, 0, 0, 0), VOID);
        Check.due("run", Check.taken("block;goto 1;block;goto 1;", 0).run(0, 0, 0, 0), NOTHING);
        ValueNumberer y = Check.taken("block;arg 0;arg 1;arg 2;arg 3;add 0 1;mul 4 2;add 5 3;ret 6;", 7);
        Check.due("the arguments by order", y.run(2, 3, 5, 7), 32);
        Check.due("another RUN", y.run(MAX, 1, -1, 0), MIN);
    }

    private static void valueAnswers() {
        Check.sentence("Promise 13", "The latest VALUE of a NAME in the latest RUN");
        ValueNumberer x = Check.taken(TURNS, 5);
        Check.due("run", x.run(5, 0, 0, 0), 0);
        long[] want = {5, 1, -1, 0, -1};
        for (int n = 0; n < 5; n++) Check.due("value(" + n + ")", x.value(n), want[n]);
        Check.due("run", x.run(0, 0, 0, 0), 0);
        Check.due("one turn", x.value(4), -1);
        Check.due("the argument", x.value(0), 0);
        Check.due("run that tells nothing", x.run(MAX, 0, 0, 0), NOTHING);
        Check.due("its latest", x.value(3), MAX - 198);
        x.alter(1, 0);
        x.agree(1, 1, 0, 0, 0);
        Check.due("what is changed behind it", x.value(1), 1);
    }

    private static void valuesWithoutRun() {
        Check.sentence("Promise 13", "(VOID; NOTHING: it got none, or there was no RUN; what text(), back() does is no RUN, and there was "
            + "none behind them).");
        ValueNumberer x = Check.taken("block;num 99;arg 0;if 1 1 2;block;num 1;ret 2;block;num 2;ret 3;", 4);
        for (int n = 0; n < 4; n++) Check.due("no RUN as yet", x.value(n), NOTHING);
        x.keep(0);
        x.agree(1, 3, 0, 1, 0);
        Check.due("no RUN by a seed", x.value(1), NOTHING);
        x.run(1, 0, 0, 0);
        Check.due("VOID", x.value(0), VOID);
        Check.due("got one", x.value(2), 1);
        Check.due("got none", x.value(3), NOTHING);
        Check.due("back(1)", x.back(1), -2);
        Check.due("behind back() refused", x.value(2), 1);
        Check.feedAll(x, "block");
        Check.due("text() refused", x.text(), -15);
        Check.due("behind text() refused", x.value(2), 1);
        Check.due("back(0)", x.back(0), 4);
        for (int n = 0; n < 4; n++) Check.due("behind back()", x.value(n), NOTHING);
        x.run(0, 0, 0, 0);
        Check.due("a RUN again", x.value(3), 2);
        Check.feedAll(x, "block;num 1;num 2;num 3;num 4;ret 0;");
        Check.due("text()", x.text(), 4);
        for (int n = 0; n < 4; n++) Check.due("behind text()", x.value(n), NOTHING);
    }

    private static void badValues() {
        Check.sentence("Promise 13", "BAD.");
        ValueNumberer x = Check.taken("block;arg 0;num 3;ret 0;", 2);
        x.run(4, 0, 0, 0);
        int[] wrong = {Integer.MIN_VALUE, -1, 2, 3, 20, Integer.MAX_VALUE};
        for (int n : wrong) Check.due("value(" + n + ")", x.value(n), -1);
        Check.due("value(0)", x.value(0), 4);
        Check.due("value(1)", x.value(1), 3);
        ValueNumberer y = Check.taken("block;" + "num1;".repeat(20) + "ret0;", 20);
        y.run(0, 0, 0, 0);
        Check.due("value(19)", y.value(19), 1);
        Check.due("value(20)", y.value(20), -1);
    }

    private static void wentAnswers() {
        Check.sentence("Promise 14", "Of the latest RUN: through how many BLOCKS it went (what 0), how many VALUES NAMES got (1), "
            + "whether it came to ret (2; 1, 0).");
        ValueNumberer x = Check.taken(TURNS, 5);
        x.run(0, 0, 0, 0);
        dueWent(x, 3, 5, 1);
        x.run(1, 0, 0, 0);
        dueWent(x, 4, 7, 1);
        x.run(197, 0, 0, 0);
        dueWent(x, 200, 3 + 198 * 2, 1);
        x.run(198, 0, 0, 0);
        dueWent(x, 200, 3 + 199 * 2, 0);
        x.agree(1, 5, 0, 1, 0);
        dueWent(x, 200, 3 + 199 * 2, 0);
        ValueNumberer y = Check.taken("block;num 99;ret 0;", 1);
        y.run(0, 0, 0, 0);
        dueWent(y, 1, 1, 1);
        ValueNumberer z = Check.taken("block;goto 1;block;goto 1;", 0);
        z.run(0, 0, 0, 0);
        dueWent(z, 200, 0, 0);
    }

    private static void dueWent(ValueNumberer x, int... want) {
        for (int what = 0; what <= 2; what++) Check.due("went(" + what + ")", x.went(what), want[what]);
    }

    private static void badWent() {
        Check.sentence("Promise 14", "BAD; NONE: there was none.");
        ValueNumberer x = Check.taken("block;num 1;ret 0;", 1);
        dueWent(x, -4, -4, -4);
        Check.due("went(-1)", x.went(-1), -1);
        Check.due("went(3)", x.went(3), -1);
        x.agree(1, 1, 0, 0, 0);
        dueWent(x, -4, -4, -4);
        x.keep(0);
        x.run(0, 0, 0, 0);
        dueWent(x, 1, 1, 1);
        for (int what : new int[] {Integer.MIN_VALUE, -1, 3, Integer.MAX_VALUE}) Check.due("went(" + what + ")", x.went(what), -1);
        x.back(0);
        dueWent(x, -4, -4, -4);
        x.run(0, 0, 0, 0);
        Check.feedAll(x, "block");
        x.text();
        dueWent(x, 1, 1, 1);
        Check.feedAll(x, "block;num 1;ret 0;");
        x.text();
        dueWent(x, -4, -4, -4);
        x.sheet(0, 0, 4);
        x.read(0, 0, 0, 0);
        dueWent(x, -4, -4, -4);
        x.read(0, 0, 1, 1);
        dueWent(x, -4, -4, -4);
        x.read(0, 0, 0, 1);
        dueWent(x, 1, 1, 1);
    }
}
