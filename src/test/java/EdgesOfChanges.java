/** Boundaries of promises 21 to 25: what is changed, and runs by a seed. */
final class EdgesOfChanges {
    // the arguments, then 0, 1, 2, 3, 4 as names 4 to 8, then -1, -2, -3, -4
    private static final String NINE = "block;arg0;arg1;arg2;arg3;num0;num1;num2;num3;num4;neg5;neg6;neg7;neg8;ret0;";

    private EdgesOfChanges() {
    }

    static void all() {
        replacing();
        sweeping();
        setting();
        settingRefused();
        altering();
        alteringRefused();
        runsBySeed();
        seedGoesOn();
        bits();
        modulo();
        differences();
        returns();
        badAgree();
    }

    private static void dueOperands(ValueNumberer x, int n, int... want) {
        Check.due("OPERANDS of " + n, x.name(n, 2), want.length);
        for (int i = 0; i < want.length; i++) Check.due("operand(" + n + ", " + i + ")", x.operand(n, i), want[i]);
    }

    private static void replacing() {
        Check.sentence("Promise 21", "Each OPERAND, that of if, ret too, becomes its LEADER (as they are ahead of it): how many become others.");
        Check.due("without BLOCKS", new ValueNumberer().replace(), 0);
        Check.due("without OPERANDS", Check.taken("block;num 1;num 1;goto 1;block;goto 1;", 2).replace(), 0);
        Check.due("none becomes another", Check.taken("block;num 1;num 2;add 0 1;ret 2;", 3).replace(), 0);
        ValueNumberer x = Check.taken("block;num 1;num 1;ret 1;", 2);
        Check.due("that of ret", x.replace(), 1);
        Check.due("it is", x.block(0, 5), 0);
        Check.due("once more", x.replace(), 0);
        x = Check.taken("block;num 1;num 1;if 1 1 1;block;ret 0;", 2);
        Check.due("that of if", x.replace(), 1);
        Check.due("it is", x.block(0, 5), 0);
        x = Check.taken("block;num 1;num 1;neg 1;add 1 0;less 1 1;goto 1;block;phi 1;ret 5;", 6);
        Check.due("five OPERANDS", x.replace(), 5);
        dueOperands(x, 2, 0);
        dueOperands(x, 3, 0, 0);
        dueOperands(x, 4, 0, 0);
        dueOperands(x, 5, 0);
        // the leader of one way is not that of another
        x = Check.taken("block;arg 0;if 0 1 2;block;neg 0;neg 0;neg 2;ret 3;block;neg 0;neg 0;neg 5;ret 6;", 7);
        Check.due("on both ways", x.replace(), 2);
        dueOperands(x, 3, 1);
        dueOperands(x, 6, 4);
        // all leaders are found ahead: name 3 is that of name 4, though its OPERAND is another by then
        x = Check.taken("block;num 1;num 1;neg 0;neg 1;add 3 3;ret 4;", 5);
        Check.due("in one go", x.replace(), 3);
        dueOperands(x, 3, 0);
        dueOperands(x, 4, 2, 2);
        Check.due("all is done", x.replace(), 0);
        x = Check.taken("block;" + "num1;".repeat(18) + "add 17 17;add 17 17;ret 19;", 20);
        Check.due("the last of twenty", x.replace(), 5);
        Check.due("ret tells", x.block(0, 5), 18);
        // the first NAME has OPERANDS, and a LEADER of a higher number
        x = Check.taken("block;goto 2;block;num 4;neg 0;ret 0;block;num 4;num 4;goto 1;", 4);
        Check.due("of a higher number", x.replace(), 2);
        dueOperands(x, 1, 2);
        Check.due("ret tells", x.block(1, 5), 2);
        x = Check.taken("block;goto 2;block;add 2 3;ret 0;block;num 4;num 4;num 4;goto 1;", 4);
        Check.due("OPERANDS of the first NAME", x.replace(), 2);
        dueOperands(x, 0, 1, 1);
        // what an END before told is no OPERAND of a goto
        x = Check.taken("block;num 1;num 1;if 1 1 1;block;ret 1;", 2);
        Check.feedAll(x, "block;num 1;num 1;goto 1;block;ret 0;");
        Check.due("text()", x.text(), 2);
        Check.due("none", x.replace(), 0);
        // a set one is counted as another, too
        x = Check.taken("block;num 1;num 1;neg 0;ret 2;", 3);
        Check.due("none as yet", x.replace(), 0);
        Check.due("set", x.set(2, 0, 1), 0);
        Check.due("one then", x.replace(), 1);
    }

    private static void sweeping() {
        Check.sentence("Promise 22", "NAMES go that are needed neither for if, ret, nor for NAMES that are (KIND gone): how many.");
        Check.due("without BLOCKS", new ValueNumberer().sweep(), 0);
        dueSwept("block;num 1;ret 0;", 0, "n");
        dueSwept("block;num 1;num 2;ret 0;", 1, "ng");
        dueSwept("block;num 1;num 2;ret 1;", 1, "gn");
        dueSwept("block;num 1;num 2;num 3;if 1 1 1;block;ret 0;", 1, "nng");
        dueSwept("block;num 1;goto 1;block;goto 1;", 1, "g");
        dueSwept("block;num 1;neg 0;neg 1;neg 2;ret 2;", 1, "nnng");
        dueSwept("block;num 1;neg 0;neg 1;neg 2;ret 0;", 3, "nggg");
        dueSwept("block;num 1;num 1;num 1;add 0 1;ret 3;", 1, "nngn");
        dueSwept("block;num 1;num 2;goto 1;block;phi 0 4;phi 1 3;neg 2;if 2 1 2;block;ret 0;", 2, "ngngn");
        // a loop that is needed stays, one by one
        dueSwept("block;num 1;goto 1;block;phi 0 2;phi 0 1;if 0 1 2;block;ret 1;", 0, "nnn");
        dueSwept("block;num 1;num 2;goto 1;block;phi 0 0;phi 1 2;if 0 1 2;block;ret 0;", 3, "nggg");
        // needed by one in a block behind it, by one of a lower number
        dueSwept("block;goto 2;block;neg 2;ret 0;block;num 1;neg 1;num 7;goto 1;", 1, "nnng");
        dueSwept("block;" + "num1;".repeat(20) + "ret 19;", 19, "gggggggggggggggggggn");
        ValueNumberer x = Check.taken("block;num 1;neg 0;neg 1;ret 1;", 3);
        Check.due("sweep()", x.sweep(), 1);
        Check.due("once more", x.sweep(), 0);
        Check.due("KIND gone", x.name(2, 0), 8);
        Check.due("without OPERANDS", x.name(2, 2), 0);
        Check.due("what it needed", x.name(1, 4), 1);
        Check.due("gone", x.rule(2), 1);
        Check.due("run", x.run(0, 0, 0, 0), -1);
        // what was needed in a text before
        Check.feedAll(x, "block;num 1;num 2;ret 1;");
        Check.due("text()", x.text(), 2);
        Check.due("the first NAME goes", x.sweep(), 1);
        Check.due("KIND gone", x.name(0, 0), 8);
        Check.feedAll(x, "block;num 1;goto 1;block;num 2;goto 1;");
        Check.due("text()", x.text(), 2);
        Check.due("all go", x.sweep(), 2);
        ValueNumberer y = Check.taken("block;num 1;neg 0;neg 1;ret 2;", 3);
        Check.due("none", y.sweep(), 0);
        Check.due("set", y.set(2, 0, 0), 1);
        Check.due("one is needed no more", y.sweep(), 1);
        Check.due("KIND gone", y.name(1, 0), 8);
    }

    /** A g for each name that is gone then. */
    private static void dueSwept(String text, int many, String gone) {
        ValueNumberer x = Check.taken(text, gone.length());
        Check.due("sweep() of " + text, x.sweep(), many);
        for (int n = 0; n < gone.length(); n++) {
            Check.due("whether " + n + " is gone of " + text, x.name(n, 0) == 8 ? 1 : 0, gone.charAt(n) == 'g' ? 1 : 0);
        }
    }

    private static void setting() {
        Check.sentence("Promise 23", "OPERAND i of a NAME becomes m: what it was.");
        ValueNumberer x = Check.taken("block;num 1;num 2;num 3;add 0 1;neg 3;goto 1;block;phi 0 5;goto 1;", 6);
        Check.due("set(3, 0, 2)", x.set(3, 0, 2), 0);
        dueOperands(x, 3, 2, 1);
        Check.due("set(3, 1, 0)", x.set(3, 1, 0), 1);
        dueOperands(x, 3, 2, 0);
        Check.due("set(3, 1, 0), as it is", x.set(3, 1, 0), 0);
        Check.due("set(4, 0, 0)", x.set(4, 0, 0), 3);
        Check.due("set(5, 0, 4)", x.set(5, 0, 4), 0);
        Check.due("set(5, 1, 0)", x.set(5, 1, 0), 5);
        Check.due("set(5, 1, 5), itself", x.set(5, 1, 5), 0);
        dueOperands(x, 5, 4, 5);
    }

    private static void settingRefused() {
        Check.sentence("Promise 23", "BAD; STATE: m is gone, or not SEEN there (as told of FAULT 6).");
        ValueNumberer x = Check.taken("block;num 1;num 2;add 0 0;num 3;if 0 1 2;block;num 4;goto 3;block;num 5;goto 3;"
            + "block;phi 4 5;neg 6;num 6;ret 7;", 9);
        for (int w : new int[] {Integer.MIN_VALUE, -1, 9, 20, Integer.MAX_VALUE}) {
            Check.due("n " + w, x.set(w, 0, 0), -1);
            Check.due("i " + w, x.set(2, w, 0), -1);
            Check.due("m " + w, x.set(2, 0, w), -1);
        }
        Check.due("i just beyond add's", x.set(2, 2, 0), -1);
        Check.due("i just beyond phi's", x.set(6, 2, 0), -1);
        Check.due("i just beyond neg's", x.set(7, 1, 0), -1);
        Check.due("num has none", x.set(8, 0, 0), -1);
        Check.due("just ahead", x.set(2, 0, 1), 0);
        Check.due("itself", x.set(2, 0, 2), -2);
        Check.due("just behind", x.set(2, 0, 3), -2);
        Check.due("of a block past it", x.set(7, 0, 5), -2);
        Check.due("of a block that dominates", x.set(7, 0, 3), 6);
        Check.due("phi: of its own block ahead of no PRED's END", x.set(6, 0, 6), -2);
        Check.due("phi: of the other PRED", x.set(6, 0, 5), -2);
        Check.due("phi: of that PRED", x.set(6, 0, 4), 4);
        Check.due("phi: of the other, 1", x.set(6, 1, 4), -2);
        Check.due("phi: of that, 1", x.set(6, 1, 5), 5);
        Check.due("phi: of what dominates both", x.set(6, 1, 3), 5);
        Check.due("sweep()", x.sweep(), 6);
        Check.due("gone, though SEEN", x.set(7, 0, 2), -2);
        Check.due("not gone", x.set(7, 0, 0), 3);
        Check.due("a gone NAME has no OPERANDS", x.set(2, 0, 0), -1);
        ValueNumberer y = Check.taken("block;num 1;goto 1;block;phi 0 2;neg 1;goto 1;", 3);
        Check.due("phi: itself at the END of block 0", y.set(1, 0, 1), -2);
        Check.due("phi: itself at its own END", y.set(1, 1, 1), 2);
        Check.due("phi: one behind it at its own END", y.set(1, 1, 2), 1);
        Check.due("without BLOCKS", new ValueNumberer().set(0, 0, 0), -1);
    }

    private static void altering() {
        Check.sentence("Promise 24", "The NUMBER (0 to 99) of a num, the ARGUMENT (0 to 3) of an arg becomes v: what it was.");
        ValueNumberer x = Check.taken("block;num 7;arg 1;add 0 1;ret 2;", 3);
        Check.due("alter(0, 0)", x.alter(0, 0), 7);
        Check.due("alter(0, 1)", x.alter(0, 1), 0);
        Check.due("alter(0, 98)", x.alter(0, 98), 1);
        Check.due("run", x.run(1, 2, 3, 4), 100);
        Check.due("alter(0, 99)", x.alter(0, 99), 98);
        Check.due("run of VOID", x.run(1, 2, 3, 4), 1000000000000L);
        Check.due("alter(0, 0)", x.alter(0, 0), 99);
        Check.due("alter(1, 0)", x.alter(1, 0), 1);
        Check.due("run of argument 0", x.run(1, 2, 3, 4), 1);
        Check.due("alter(1, 3)", x.alter(1, 3), 0);
        Check.due("run of argument 3", x.run(1, 2, 3, 4), 4);
        Check.due("alter(1, 3), as it is", x.alter(1, 3), 3);
        Check.due("alter(1, 2)", x.alter(1, 2), 3);
        Check.due("its ARGUMENT", x.name(1, 3), 2);
    }

    private static void alteringRefused() {
        Check.sentence("Promise 24", "BAD: also other KINDS.");
        ValueNumberer x = Check.taken("block;num 7;arg 1;add 0 1;mul 0 1;neg 0;less 0 1;div 0 1;goto 1;block;phi 0;num 5;ret 7;", 9);
        for (int v : new int[] {Integer.MIN_VALUE, -1, 100, Integer.MAX_VALUE}) Check.due("alter(0, " + v + ")", x.alter(0, v), -1);
        for (int v : new int[] {Integer.MIN_VALUE, -1, 4, 99, Integer.MAX_VALUE}) Check.due("alter(1, " + v + ")", x.alter(1, v), -1);
        for (int n = 2; n <= 7; n++) Check.due("KIND " + n, x.alter(n, 0), -1);
        for (int n : new int[] {Integer.MIN_VALUE, -1, 9, 20, Integer.MAX_VALUE}) Check.due("alter(" + n + ", 0)", x.alter(n, 0), -1);
        Check.due("the last", x.alter(8, 4), 5);
        Check.due("NUMBER stays", x.name(0, 3), 7);
        Check.due("ARGUMENT stays", x.name(1, 3), 1);
        Check.due("sweep()", x.sweep(), 7);
        Check.due("a num that is gone", x.alter(8, 0), -1);
        Check.due("an arg that is gone", x.alter(1, 0), -1);
        Check.due("a num that is not", x.alter(0, 0), 7);
        Check.due("without BLOCKS", new ValueNumberer().alter(0, 0), -1);
    }

    // ---- by a seed

    /** Seed 1 brings 16838, 5758, 10113, 17515, then 31051, 5627, 23010, 7419, then 16212, 4086, 2749, 12767. */
    private static void runsBySeed() {
        Check.sentence("Promise 25", "n RUNS (1 to 50) by a seed, by themselves (they are no latest RUN):");
        ValueNumberer x = Check.taken("block;arg 0;num 99;ret 0;", 2);
        Check.due("0 RUNS", x.agree(1, 0, 0, 1, 0), -1);
        for (int n : new int[] {1, 2, 49, 50}) Check.due(n + " RUNS", x.agree(1, n, 0, 1, 0), n);
        Check.due("51 RUNS", x.agree(1, 51, 0, 1, 0), -1);
        Check.due("no RUN", x.went(0), -4);
        Check.due("no VALUE", x.value(0), 2000000000000L);
        Check.due("run", x.run(77, 0, 0, 0), 77);
        Check.due("agree", x.agree(1, 1, 0, 1, 1), 1);
        Check.due("VALUE of the latest RUN", x.value(0), 77);
        Check.due("agree of what ends", x.agree(1, 50, 0, 1, 1), 50);
        Check.due("went(1)", x.went(1), 2);
    }

    /** How often an argument is another than a number from -4 to 4. */
    private static int others(ValueNumberer x, int seed, int n, int arg, int number) {
        return x.agree(seed, n, arg, number < 0 ? 8 - number : 4 + number, 0);
    }

    private static void dueArguments(int seed, int run, int... want) {
        ValueNumberer x = Check.taken(NINE, 13);
        for (int a = 0; a < 4; a++) {
            for (int v = -4; v <= 4; v++) {
                int ahead = run == 1 ? 0 : others(x, seed, run - 1, a, v);
                Check.due("seed " + seed + ", RUN " + run + ", argument " + a + " is not " + v, others(x, seed, run, a, v) - ahead,
                    v == want[a] ? 0 : 1);
            }
        }
    }

    private static void seedGoesOn() {
        Check.sentence("Promise 25", "for each of its arguments by order the seed becomes seed times 1103515245 and 12345;");
        dueArguments(1, 1, 4, 3, 2, -3);
        dueArguments(1, 2, -3, -2, 2, -1);
        dueArguments(1, 3, -1, -4, 0, 1);
        // each call begins by the seed that it is told
        dueArguments(1, 1, 4, 3, 2, -3);
        // what is beyond 32 bits is lost; seed 0 brings 0, 21468, 9988, 22117
        dueArguments(0, 1, -4, -1, 3, 0);
        dueArguments(2147483647, 1, argumentsOf(2147483647L));
        dueArguments(-2147483648, 1, argumentsOf(2147483648L));
        dueArguments(-1, 1, argumentsOf(4294967295L));
        dueArguments(12345, 1, argumentsOf(12345L));
    }

    /** By other ways than the class: without a sign, by remainders of powers of two. */
    private static int[] argumentsOf(long seed) {
        int[] row = new int[4];
        long state = seed;
        for (int a = 0; a < 4; a++) {
            state = Long.remainderUnsigned(state * 1103515245L + 12345L, 4294967296L);
            row[a] = (int) (state % 2147483648L / 65536L % 9L) - 4;
        }
        return row;
    }

    private static void bits() {
        Check.sentence("Promise 25", "bits 16 to 30 of it are got;");
        // its second state is 2524885223: bit 31 is set, and left out
        dueArguments(1, 1, 4, 3, 2, -3);
        // among the states behind these are such with bit 15 or 31 set, and such without
        for (int seed : new int[] {0, 1, 2, 3, 65535, 65536, 32767, 32768, 1 << 30, 1 << 31}) {
            dueArguments(seed, 1, argumentsOf(seed & 0xffffffffL));
        }
    }

    private static void modulo() {
        Check.sentence("Promise 25", "the argument is got modulo 9, less 4:");
        dueArguments(1, 1, 4, 3, 2, -3);
        dueArguments(1, 3, -1, -4, 0, 1);
        ValueNumberer x = Check.taken("block;arg0;arg1;arg2;arg3;num4;neg4;less4 0;less4 1;less4 2;less4 3;less0 5;less1 5;less2 5;less3 5;"
            + "num0;ret0;", 15);
        for (int n = 6; n <= 13; n++) {
            for (int seed = 1; seed <= 20; seed++) Check.due("above 4, below -4: " + n, x.agree(seed, 50, n, 14, 0), 0);
        }
    }

    private static void differences() {
        Check.sentence("Promise 25", "how many times, behind NAME m getting a VALUE (of a phi: behind all phi of its BLOCK), "
            + "NAME k has another one than m then, not none (what 0),");
        ValueNumberer x = Check.taken("block;num 5;num 6;num 5;num 99;num 99;goto 1;block;phi 0;ret 0;", 6);
        Check.due("itself", x.agree(1, 7, 0, 0, 0), 0);
        Check.due("another, ahead", x.agree(1, 7, 0, 1, 0), 7);
        Check.due("one that has none as yet", x.agree(1, 7, 1, 0, 0), 0);
        Check.due("the same", x.agree(1, 7, 0, 2, 0), 0);
        Check.due("VOID and VOID", x.agree(1, 7, 3, 4, 0), 0);
        Check.due("a number, and m VOID", x.agree(1, 7, 0, 3, 0), 7);
        Check.due("VOID, and m a number", x.agree(1, 7, 3, 5, 0), 7);
        Check.due("phi of the same", x.agree(1, 7, 0, 5, 0), 0);
        // two turns and the first: 3 is 0 1 2, 4 is 1 2 3; block 1 is come to three times
        ValueNumberer y = Check.taken("block;num 0;num 1;num 3;goto 1;block;phi 0 4;phi 1 6;less 4 2;add 4 1;if 5 1 2;block;ret 3;", 7);
        Check.due("behind all phi: one told later", y.agree(9, 1, 4, 3, 0), 3);
        Check.due("behind all phi: one told earlier", y.agree(9, 1, 3, 4, 0), 3);
        Check.due("none in the first turn, the same in others", y.agree(9, 1, 6, 4, 0), 0);
        Check.due("none in the first turn, another in others", y.agree(9, 1, 5, 4, 0), 2);
        Check.due("behind the last NAME", y.agree(9, 1, 4, 6, 0), 3);
        // as often as there are BLOCKS: 199 times in each RUN
        ValueNumberer z = Check.taken("block;num 1;num 2;goto 1;block;num 1;goto 1;", 3);
        Check.due("in each turn", z.agree(1, 1, 1, 2, 0), 199);
        Check.due("in each turn of 50", z.agree(1, 50, 1, 2, 0), 9950);
        Check.due("never another", z.agree(1, 50, 0, 2, 0), 0);
        ValueNumberer g = Check.taken("block;num 5;arg 0;num 6;ret 0;", 3);
        Check.due("sweep()", g.sweep(), 2);
        Check.due("k is gone", g.agree(1, 10, 1, 0, 0), 0);
        Check.due("m is gone", g.agree(1, 10, 0, 2, 0), 0);
    }

    private static void returns() {
        Check.sentence("Promise 25", "how many RUNS come to ret (1).");
        Check.due("each", Check.taken("block;arg 0;ret 0;", 1).agree(1, 50, 0, 0, 1), 50);
        Check.due("none", Check.taken("block;arg 0;goto 1;block;goto 1;", 1).agree(1, 50, 0, 0, 1), 0);
        // the first arguments are 4, -3, -1: those above 0 do not end
        ValueNumberer x = Check.taken("block;arg 0;goto 1;block;if 0 1 2;block;ret 0;", 1);
        Check.due("1 RUN", x.agree(1, 1, 0, 0, 1), 0);
        Check.due("2 RUNS", x.agree(1, 2, 0, 0, 1), 1);
        Check.due("3 RUNS", x.agree(1, 3, 0, 0, 1), 2);
        // 200 BLOCKS, and one more
        String turns = "block;num 98;num 98;num 1;neg 2;add 0 1;TWO;goto 1;block;phi 5 7;add 6 3;if 6 1 2;block;ret 6;";
        Check.due("ret in the 199th BLOCK", Check.taken(turns.replace("TWO", "add 4 4"), 8).agree(1, 5, 0, 0, 1), 0);
        Check.due("ret in the 199th BLOCK", Check.taken(turns.replace("TWO", "add 4 0"), 8).agree(1, 5, 0, 0, 1), 0);
        Check.due("ret in the 199th BLOCK", Check.taken(turns.replace("TWO", "add 4 3"), 8).agree(1, 5, 0, 0, 1), 5);
        Check.due("ret in the 200th BLOCK", Check.taken(turns.replace("TWO", "add 4 2"), 8).agree(1, 5, 0, 0, 1), 5);
    }

    private static void badAgree() {
        Check.sentence("Promise 25", "BAD.");
        ValueNumberer x = Check.taken("block;arg 0;num 1;ret 0;", 2);
        for (int n : new int[] {Integer.MIN_VALUE, -1, 0, 51, Integer.MAX_VALUE}) Check.due("n " + n, x.agree(1, n, 0, 1, 1), -1);
        for (int w : new int[] {Integer.MIN_VALUE, -1, 2, 20, Integer.MAX_VALUE}) {
            Check.due("k " + w, x.agree(1, 1, w, 1, 1), -1);
            Check.due("m " + w, x.agree(1, 1, 0, w, 1), -1);
            Check.due("what " + w, x.agree(1, 1, 0, 1, w), -1);
        }
        for (int k = 0; k <= 1; k++) Check.due("k, m " + k, x.agree(1, 1, k, k, 0), 0);
        for (int seed : new int[] {Integer.MIN_VALUE, -1, 0, Integer.MAX_VALUE}) Check.due("any seed", x.agree(seed, 1, 0, 1, 1), 1);
        Check.due("without BLOCKS", new ValueNumberer().agree(1, 1, 0, 0, 1), -1);
        ValueNumberer y = Check.taken("block;" + "num1;".repeat(19) + "num2;ret0;", 20);
        Check.due("k 18, m 19", y.agree(1, 50, 18, 19, 0), 50);
        Check.due("k 20", y.agree(1, 50, 20, 19, 0), -1);
        Check.due("m 20", y.agree(1, 50, 18, 20, 0), -1);
    }
}
