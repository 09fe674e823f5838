/** Promises 15 to 18: classes, part, partAt, leader. */
public final class ClassesTest {
    public static void main(String[] args) {
        loops();
        straight();
        roundByRound();
        crosswise();
        leaders();
        leadersInAChain();
        goneNames();
        nothing();
        wrongNumbers();
        Check.finish();
    }

    private static long[] parts(ValueNumberer x) {
        long[] row = new long[x.rule(1)];
        for (int n = 0; n < row.length; n++) row[n] = x.part(n);
        return row;
    }

    private static long[] partsAt(ValueNumberer x, int r) {
        long[] row = new long[x.rule(1)];
        for (int n = 0; n < row.length; n++) row[n] = x.partAt(n, r);
        return row;
    }

    private static long[] leadersOf(ValueNumberer x) {
        long[] row = new long[x.rule(1)];
        for (int n = 0; n < row.length; n++) row[n] = x.leader(n);
        return row;
    }

    private static long[] all(ValueNumberer x) {
        return new long[] {x.classes(0), x.classes(1), x.classes(2)};
    }

    private static void loops() {
        // two counters that run alike, and one that does not
        ValueNumberer y = Check.taken("block;num 0;num 1;num 5;goto 1;block;phi 0 6;phi 0 7;phi 2 8;add 3 1;add 1 4;add 5 1;"
            + "if 3 1 2;block;ret 4;", 9);
        Check.dueRow("part", parts(y), 0, 1, 2, 3, 3, 5, 6, 6, 8);
        Check.dueRow("classes", all(y), 7, 2, 2);
        Check.dueRow("partAt 0", partsAt(y, 0), 0, 1, 2, 3, 3, 3, 6, 6, 6);
        Check.dueRow("partAt 1", partsAt(y, 1), 0, 1, 2, 3, 3, 5, 6, 6, 6);
        Check.dueRow("partAt 2", partsAt(y, 2), 0, 1, 2, 3, 3, 5, 6, 6, 8);
        Check.dueRow("partAt 100", partsAt(y, 100), 0, 1, 2, 3, 3, 5, 6, 6, 8);
        Check.dueRow("leader", leadersOf(y), 0, 1, 2, 3, 3, 5, 6, 6, 8);
    }

    private static void straight() {
        ValueNumberer x = Check.taken("block;num 4;num 4;num 99;num 99;arg 1;arg 1;arg 2;neg 0;neg 1;neg 4;div 0 4;div 4 0;"
            + "less 0 1;less 1 0;num 0;arg 0;ret 0;", 16);
        Check.dueRow("part", parts(x), 0, 0, 2, 2, 4, 4, 6, 7, 7, 9, 10, 11, 12, 12, 14, 15);
        Check.dueRow("classes", all(x), 11, 1, 2);
    }

    private static void roundByRound() {
        // a chain: each round splits one more of the negs
        ValueNumberer x = Check.taken("block;arg 0;neg 0;neg 1;neg 2;neg 3;neg 4;ret 5;", 6);
        Check.dueRow("partAt 0", partsAt(x, 0), 0, 1, 1, 1, 1, 1);
        Check.dueRow("partAt 1", partsAt(x, 1), 0, 1, 2, 2, 2, 2);
        Check.dueRow("partAt 2", partsAt(x, 2), 0, 1, 2, 3, 3, 3);
        Check.dueRow("partAt 3", partsAt(x, 3), 0, 1, 2, 3, 4, 4);
        Check.dueRow("partAt 4", partsAt(x, 4), 0, 1, 2, 3, 4, 5);
        Check.dueRow("partAt 5", partsAt(x, 5), 0, 1, 2, 3, 4, 5);
        Check.dueRow("classes", all(x), 6, 4, 1);
        ValueNumberer y = Check.taken("block;arg 0;" + "neg 00;neg 01;neg 02;neg 03;neg 04;neg 05;neg 06;neg 07;neg 08;neg 09;"
            + "neg 10;neg 11;neg 12;neg 13;neg 14;neg 15;neg 16;neg 17;neg 18;ret 19;", 20);
        Check.dueRow("classes of twenty", all(y), 20, 18, 1);
        Check.due("partAt(19, 17)", y.partAt(19, 17), 18);
        ValueNumberer z = Check.taken("block;num 1;num 1;num 1;goto 1;block;phi 0;phi 1;goto 2;block;phi 2;ret 0;", 6);
        Check.dueRow("phis of other blocks", parts(z), 0, 0, 0, 3, 3, 5);
        Check.dueRow("nothing changes behind round 0", all(z), 3, 0, 3);
    }

    private static void crosswise() {
        ValueNumberer x = Check.taken("block;arg 0;arg 1;add 0 1;add 1 0;mul 0 1;mul 1 0;less 0 1;less 1 0;div 0 1;div 1 0;"
            + "add 0 0;add 1 1;add 0 1;ret 0;", 13);
        Check.dueRow("part", parts(x), 0, 1, 2, 2, 4, 4, 6, 7, 8, 9, 10, 11, 2);
        Check.dueRow("classes", all(x), 10, 1, 3);
        ValueNumberer y = Check.taken("block;arg 0;arg 1;if 0 1 2;block;goto 3;block;goto 3;block;phi 0 1;phi 1 0;phi 0 1;ret 2;", 5);
        Check.dueRow("phis do not cross", parts(y), 0, 1, 2, 3, 2);
    }

    private static void leaders() {
        // alike on both ways, but neither is seen at the other
        ValueNumberer x = Check.taken("block;arg 0;if 0 1 2;block;neg 0;neg 0;goto 3;block;neg 0;goto 3;block;neg 0;neg 0;ret 4;", 6);
        Check.dueRow("part", parts(x), 0, 1, 1, 1, 1, 1);
        Check.dueRow("leader", leadersOf(x), 0, 1, 1, 3, 4, 4);
    }

    private static void leadersInAChain() {
        // block 2 dominates block 1, so that the leader has a higher number
        ValueNumberer x = Check.taken("block;goto 2;block;num 4;num 4;ret 0;block;num 4;num 4;goto 1;", 4);
        Check.dueRow("part", parts(x), 0, 0, 0, 0);
        Check.dueRow("leader", leadersOf(x), 2, 2, 2, 2);
        ValueNumberer y = Check.taken("block;num 4;goto 3;block;num 4;ret 1;block;num 4;goto 1;block;num 4;goto 2;", 4);
        Check.dueRow("leader of four", leadersOf(y), 0, 0, 0, 0);
        ValueNumberer z = Check.taken("block;goto 2;block;num 4;ret 0;block;num 4;goto 1;", 2);
        Check.due("leader asked first of all", z.leader(0), 1);
        Check.due("one of another class", Check.taken("block;num 4;num 5;ret 1;", 2).leader(1), 1);
    }

    private static void goneNames() {
        ValueNumberer x = Check.taken("block;num 4;num 4;num 4;arg 1;arg 1;ret 1;", 5);
        Check.due("sweep()", x.sweep(), 4);
        Check.dueRow("part", parts(x), 0, 1, 2, 3, 4);
        Check.dueRow("partAt 0", partsAt(x, 0), 0, 1, 2, 3, 4);
        Check.dueRow("leader", leadersOf(x), 0, 1, 2, 3, 4);
        Check.dueRow("classes", all(x), 1, 0, 1);
    }

    private static void nothing() {
        ValueNumberer x = new ValueNumberer();
        Check.dueRow("classes of a new one", all(x), 0, 0, 0);
        Check.due("part(0)", x.part(0), -1);
        Check.dueRow("classes without names", all(Check.taken("block;goto 1;block;goto 1;", 0)), 0, 0, 0);
    }

    private static void wrongNumbers() {
        ValueNumberer x = Check.taken("block;num 1;num 1;ret 0;", 2);
        int[] wild = {Integer.MIN_VALUE, -1, 101, Integer.MAX_VALUE};
        for (int w : wild) {
            Check.due("classes " + w, x.classes(w), -1);
            Check.due("part " + w, x.part(w), -1);
            Check.due("partAt n " + w, x.partAt(w, 0), -1);
            Check.due("partAt r " + w, x.partAt(0, w), -1);
            Check.due("leader " + w, x.leader(w), -1);
        }
        Check.due("classes(3)", x.classes(3), -1);
        Check.due("part(2)", x.part(2), -1);
        Check.due("partAt(2, 0)", x.partAt(2, 0), -1);
        Check.due("leader(2)", x.leader(2), -1);
    }
}
