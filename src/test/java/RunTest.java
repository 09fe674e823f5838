/** Promises 12 to 14: run, value, went. */
public final class RunTest {
    private static final long VOID = 1000000000000L, NOTHING = 2000000000000L;

    public static void main(String[] args) {
        arithmetic();
        voids();
        ways();
        phisAtOnce();
        nextBlockIsLeftAlone();
        endless();
        latestValues();
        withoutBlocks();
        wrongNumbers();
        Check.finish();
    }

    private static void arithmetic() {
        int[] some = {0, 1, -1, 2, -2, 7, -7, 65536, 46341, Integer.MAX_VALUE, Integer.MIN_VALUE, 1103515245};
        for (int a : some) {
            ValueNumberer x = Check.taken("block;arg 0;arg 1;add 0 1;mul 0 1;neg 0;less 0 1;div 0 1;ret 2;", 7);
            for (int b : some) {
                Check.due("sum", x.run(a, b, 0, 0), a + b);
                Check.due("value 0", x.value(0), a);
                Check.due("value 1", x.value(1), b);
                Check.due("value 3", x.value(3), a * b);
                Check.due("value 4", x.value(4), -a);
                Check.due("value 5", x.value(5), a < b ? 1 : 0);
                Check.due("value 6 of " + a + " " + b, x.value(6), b == 0 ? VOID : a / b);
            }
        }
        ValueNumberer y = Check.taken("block;arg 0;arg 1;arg 2;arg 3;add 0 1;mul 4 2;add 5 3;ret 6;", 7);
        Check.due("four arguments", y.run(1, 2, 3, 4), 13);
        Check.due("four others", y.run(-5, 2, 10, 7), -23);
        ValueNumberer z = Check.taken("block;num 98;num 0;ret 0;", 2);
        Check.due("98", z.run(1, 2, 3, 4), 98);
        Check.due("0", z.value(1), 0);
    }

    private static void voids() {
        ValueNumberer x = Check.taken("block;num 99;num 1;add 0 1;add 1 0;mul 0 1;mul 1 0;neg 0;less 0 1;less 1 0;div 0 1;"
            + "div 1 0;less 0 0;num 0;div 1 12;div 12 12;ret 0;", 15);
        Check.due("run", x.run(0, 0, 0, 0), VOID);
        long[] want = {VOID, 1, VOID, VOID, VOID, VOID, VOID, 0, 0, VOID, VOID, 0, 0, VOID, VOID};
        for (int n = 0; n < want.length; n++) Check.due("value " + n, x.value(n), want[n]);
        Check.due("came to ret", x.went(2), 1);
        ValueNumberer y = Check.taken("block;num 99;goto 1;block;phi 0;neg 1;ret 1;", 3);
        Check.due("phi of void", y.run(0, 0, 0, 0), VOID);
        Check.due("neg of it", y.value(2), VOID);
    }

    private static void ways() {
        ValueNumberer x = Check.taken("block;arg 0;num 0;div 0 1;if 0 1 2;block;num 10;ret 3;block;if 2 1 3;block;num 20;ret 4;", 5);
        Check.due("above 0", x.run(1, 0, 0, 0), 10);
        Check.due("blocks", x.went(0), 2);
        Check.due("value 4 got none", x.value(4), NOTHING);
        Check.due("0, and void", x.run(0, 0, 0, 0), 20);
        Check.due("blocks then", x.went(0), 3);
        Check.due("values then", x.went(1), 4);
        Check.due("value 3 got none", x.value(3), NOTHING);
        Check.due("below 0", x.run(-1, 0, 0, 0), 20);
        Check.due("far above 0", x.run(Integer.MAX_VALUE, 0, 0, 0), 10);
    }

    private static void phisAtOnce() {
        // two names change places in each turn
        ValueNumberer x = Check.taken("block;num 1;num 2;arg 0;num 0;num 1;goto 1;"
            + "block;phi 0 6;phi 1 5;phi 3 9;less 7 2;if 8 2 3;block;add 7 4;goto 1;block;ret 5;", 10);
        Check.due("no turn", x.run(0, 0, 0, 0), 1);
        Check.due("one turn", x.run(1, 0, 0, 0), 2);
        Check.due("the other", x.value(6), 1);
        Check.due("two turns", x.run(2, 0, 0, 0), 1);
        Check.due("blocks", x.went(0), 7);
        Check.due("values", x.went(1), 5 + 3 * 4 + 2);
        // the i-th operand belongs to the i-th pred, by order of blocks
        ValueNumberer y = Check.taken("block;arg 0;num 5;if 0 3 1;block;num 6;goto 2;block;phi 2 1;ret 3;block;goto 2;", 4);
        Check.due("by block 3", y.run(1, 0, 0, 0), 5);
        Check.due("by block 1", y.run(0, 0, 0, 0), 6);
    }

    private static void nextBlockIsLeftAlone() {
        ValueNumberer x = Check.taken("block;arg 0;num 5;goto 1;block;if 0 2 3;block;phi 1;ret 2;block;ret 1;", 3);
        Check.due("past the phi", x.run(0, 0, 0, 0), 5);
        Check.due("the phi got none", x.value(2), NOTHING);
        Check.due("values", x.went(1), 2);
        Check.due("by the phi", x.run(1, 0, 0, 0), 5);
        Check.due("the phi got one", x.value(2), 5);
    }

    private static void endless() {
        ValueNumberer x = Check.taken("block;num 1;goto 1;block;phi 0 2;add 1 0;goto 1;", 3);
        Check.due("it tells nothing", x.run(0, 0, 0, 0), NOTHING);
        Check.due("blocks", x.went(0), 200);
        Check.due("values", x.went(1), 1 + 199 * 2);
        Check.due("no ret", x.went(2), 0);
        Check.due("the latest value", x.value(2), 200);
        // counts down from its argument: block 0, then one and one for each turn, then the ret
        ValueNumberer y = Check.taken("block;arg 0;num 1;neg 1;goto 1;block;phi 0 4;add 3 2;if 3 1 2;block;ret 3;", 5);
        Check.due("197 turns", y.run(197, 0, 0, 0), 0);
        Check.due("200 blocks", y.went(0), 200);
        Check.due("ret", y.went(2), 1);
        Check.due("198 turns", y.run(198, 0, 0, 0), NOTHING);
        Check.due("200 blocks again", y.went(0), 200);
        Check.due("no ret then", y.went(2), 0);
    }

    private static void latestValues() {
        ValueNumberer x = Check.taken("block;arg 0;num 7;neg 0;ret 2;", 3);
        for (int n = 0; n < 3; n++) Check.due("no run as yet " + n, x.value(n), NOTHING);
        for (int what = 0; what < 3; what++) Check.due("no run as yet, went " + what, x.went(what), -4);
        Check.due("run", x.run(4, 0, 0, 0), -4);
        Check.due("went(0)", x.went(0), 1);
        Check.due("went(1)", x.went(1), 3);
        Check.due("went(2)", x.went(2), 1);
        x.keep(1);
        Check.due("keep() changes no value", x.value(2), -4);
        x.alter(0, 1);
        Check.due("alter() changes no value", x.value(0), 4);
        x.sweep();
        Check.due("sweep() changes no value", x.value(1), 7);
        Check.due("a run behind it", x.run(4, 5, 0, 0), -5);
        Check.due("one that is gone gets none", x.value(1), NOTHING);
        Check.due("values got", x.went(1), 2);
        Check.due("back", x.back(1), 3);
        Check.due("value behind back()", x.value(2), NOTHING);
        Check.due("went behind back()", x.went(0), -4);
    }

    private static void withoutBlocks() {
        ValueNumberer x = new ValueNumberer();
        Check.due("run", x.run(1, 2, 3, 4), NOTHING);
        Check.dueRow("went", new long[] {x.went(0), x.went(1), x.went(2)}, 0, 0, 0);
        Check.due("value(0)", x.value(0), -1);
    }

    private static void wrongNumbers() {
        ValueNumberer x = Check.taken("block;num 1;ret 0;", 1);
        int[] wild = {Integer.MIN_VALUE, -1, 3, 20, Integer.MAX_VALUE};
        for (int w : wild) {
            Check.due("value " + w, x.value(w), -1);
            Check.due("went " + w, x.went(w), -1);
        }
        Check.due("value(1)", x.value(1), -1);
    }
}
