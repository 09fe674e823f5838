/** Promises 21 to 24: replace, sweep, set, alter. */
public final class ChangeTest {
    private static final String LOOP = "block;num 1;arg 0;num 1;goto 1;block;phi 0 8;phi 2 9;less 3 1;if 5 2 3;"
        + "block;num 2;num 1;add 3 7;add 7 4;goto 1;block;add 3 4;ret 10;";

    public static void main(String[] args) {
        replacing();
        replacingEnds();
        replacingAtOnce();
        sweeping();
        setting();
        settingPhis();
        altering();
        onNothing();
        Check.finish();
    }

    private static void replacing() {
        ValueNumberer x = Check.taken(LOOP, 11);
        long before = x.run(5, 0, 0, 0);
        Check.due("part(7)", x.part(7), 0);
        Check.due("leader(4)", x.leader(4), 3);
        // 2 of phi 4, 9 of phi 4, 7 of both adds, 4 of the second add and of the last
        Check.due("replace()", x.replace(), 6);
        Check.due("operand(4, 0)", x.operand(4, 0), 0);
        Check.due("operand(4, 1)", x.operand(4, 1), 8);
        Check.due("operand(8, 1)", x.operand(8, 1), 0);
        Check.due("operand(9, 0)", x.operand(9, 0), 0);
        Check.due("operand(9, 1)", x.operand(9, 1), 3);
        Check.due("operand(10, 1)", x.operand(10, 1), 3);
        Check.due("replace() again", x.replace(), 0);
        Check.due("what it tells", x.run(5, 0, 0, 0), before);
        Check.due("sweep()", x.sweep(), 5);
        Check.due("what it tells then", x.run(5, 0, 0, 0), before);
    }

    private static void replacingEnds() {
        ValueNumberer x = Check.taken("block;arg 0;arg 0;if 1 1 2;block;ret 1;block;arg 0;ret 2;", 3);
        Check.due("replace()", x.replace(), 3);
        Check.due("of if", x.block(0, 5), 0);
        Check.due("of ret", x.block(1, 5), 0);
        Check.due("of the other ret", x.block(2, 5), 0);
        Check.due("uses", x.name(0, 4), 3);
    }

    private static void replacingAtOnce() {
        // leaders are those from ahead of the call
        ValueNumberer x = Check.taken("block;arg 0;arg 0;neg 0;neg 1;neg 2;neg 3;ret 5;", 6);
        Check.due("replace()", x.replace(), 3);
        Check.due("operand(3, 0)", x.operand(3, 0), 0);
        Check.due("operand(5, 0)", x.operand(5, 0), 2);
        Check.due("ret", x.block(0, 5), 4);
        ValueNumberer z = Check.taken("block;goto 2;block;num 4;ret 0;block;num 4;goto 1;", 2);
        Check.due("a leader behind", z.replace(), 1);
        Check.due("ret of it", z.block(1, 5), 1);
        ValueNumberer y = Check.taken("block;arg 0;if 0 1 2;block;neg 0;goto 3;block;neg 0;goto 3;block;phi 1 2;ret 3;", 4);
        Check.due("each is its own leader", y.replace(), 0);
    }

    private static void sweeping() {
        ValueNumberer x = Check.taken("block;num 1;neg 0;neg 1;arg 0;arg 1;if 4 1 1;block;add 0 2;mul 5 5;ret 3;", 7);
        Check.due("sweep()", x.sweep(), 5);
        long[] want = {8, 8, 8, 1, 1, 8, 8};
        for (int n = 0; n < want.length; n++) Check.due("kind " + n, x.name(n, 0), want[n]);
        Check.due("sweep() again", x.sweep(), 0);
        Check.due("gone", x.rule(2), 5);
        Check.due("names", x.rule(1), 7);
        ValueNumberer y = Check.taken("block;num 1;neg 0;neg 1;ret 2;", 3);
        Check.due("all are needed", y.sweep(), 0);
        ValueNumberer w = Check.taken("block;num 1;neg 0;ret 1;", 2);
        Check.due("the first is needed", w.sweep(), 0);
        Check.feedAll(w, "block;num 1;num 2;ret 1;");
        Check.due("text()", w.text(), 2);
        Check.due("the first is needed no more", w.sweep(), 1);
        ValueNumberer z = Check.taken("block;goto 2;block;neg 1;ret 0;block;num 3;num 4;goto 1;", 3);
        Check.due("one in a later block is needed", z.sweep(), 1);
        Check.due("kind 1", z.name(1, 0), 0);
        Check.due("kind 2", z.name(2, 0), 8);
    }

    private static void setting() {
        ValueNumberer x = Check.taken("block;num 4;arg 0;arg 1;add 1 2;neg 3;if 1 1 2;block;neg 0;ret 5;block;num 3;neg 6;ret 7;", 8);
        Check.due("set", x.set(3, 1, 0), 2);
        Check.due("operand", x.operand(3, 1), 0);
        Check.due("run", x.run(1, 0, 0, 0), -4);
        Check.due("set back", x.set(3, 1, 2), 0);
        Check.due("set the same", x.set(3, 1, 2), 2);
        Check.due("itself", x.set(3, 0, 3), -2);
        Check.due("one behind", x.set(3, 0, 4), -2);
        Check.due("one on another way", x.set(7, 0, 5), -2);
        Check.due("one in a block that dominates", x.set(7, 0, 4), 6);
        Check.due("no name", x.set(8, 0, 0), -1);
        Check.due("no name -1", x.set(-1, 0, 0), -1);
        Check.due("no operand", x.set(3, 2, 0), -1);
        Check.due("no operand -1", x.set(3, -1, 0), -1);
        Check.due("no operand of neg", x.set(4, 1, 0), -1);
        Check.due("no operand of num", x.set(0, 0, 0), -1);
        Check.due("no name to become", x.set(3, 0, 8), -1);
        Check.due("no name to become -1", x.set(3, 0, -1), -1);
        Check.due("operand stays", x.operand(3, 0), 1);
        Check.due("sweep()", x.sweep(), 1);
        Check.due("gone", x.name(6, 0), 8);
        Check.due("one that is gone", x.set(7, 0, 6), -2);
        Check.due("of one that is gone", x.set(6, 0, 0), -1);
    }

    private static void settingPhis() {
        ValueNumberer x = Check.taken(LOOP, 11);
        Check.due("of the other pred", x.set(3, 0, 8), -2);
        Check.due("by the end of its pred", x.set(3, 1, 9), 8);
        Check.due("the phi itself", x.set(3, 1, 3), 9);
        Check.due("a name behind in its block", x.set(3, 1, 5), 3);
        Check.due("itself at the first pred", x.set(3, 0, 3), -2);
        Check.due("a name of the first pred", x.set(3, 0, 1), 0);
        Check.due("no third operand", x.set(3, 2, 0), -1);
        Check.due("none of the last block", x.set(3, 1, 10), -2);
        Check.due("run", x.run(0, 0, 0, 0), 1);
    }

    private static void altering() {
        ValueNumberer x = Check.taken("block;num 4;arg 0;add 0 1;neg 2;num 99;ret 2;", 5);
        Check.due("alter num", x.alter(0, 98), 4);
        Check.due("run", x.run(1, 2, 3, 5), 99);
        Check.due("alter to void", x.alter(0, 99), 98);
        Check.due("run of void", x.run(1, 2, 3, 5), 1000000000000L);
        Check.due("alter to 0", x.alter(0, 0), 99);
        Check.due("alter void", x.alter(4, 1), 99);
        Check.due("num 100", x.alter(0, 100), -1);
        Check.due("num -1", x.alter(0, -1), -1);
        Check.due("alter arg", x.alter(1, 3), 0);
        Check.due("run of the last argument", x.run(1, 2, 3, 5), 5);
        Check.due("arg 4", x.alter(1, 4), -1);
        Check.due("arg -1", x.alter(1, -1), -1);
        Check.due("arg as it was", x.name(1, 3), 3);
        Check.due("alter arg again", x.alter(1, 0), 3);
        Check.due("add", x.alter(2, 0), -1);
        Check.due("neg", x.alter(3, 0), -1);
        Check.due("no name", x.alter(5, 0), -1);
        Check.due("no name -1", x.alter(-1, 0), -1);
        Check.due("sweep()", x.sweep(), 2);
        Check.due("gone", x.alter(4, 0), -1);
    }

    private static void onNothing() {
        ValueNumberer x = new ValueNumberer();
        Check.due("replace()", x.replace(), 0);
        Check.due("sweep()", x.sweep(), 0);
        Check.due("set", x.set(0, 0, 0), -1);
        Check.due("alter", x.alter(0, 0), -1);
    }
}
