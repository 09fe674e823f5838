/** Promises 26 to 32: keep, back, sheet, lay, read, torn, count. */
public final class KeepTest {
    private static final String LOOP = "block;num 1;arg 0;num 1;goto 1;block;phi 0 8;phi 2 9;less 3 1;if 5 2 3;"
        + "block;num 2;num 1;add 3 7;add 7 4;goto 1;block;add 3 4;ret 10;";
    private static final String SUM = "block;arg 0;arg 1;arg 2;arg 3;num 10;mul 0 4;add 5 1;mul 6 4;add 7 2;mul 8 4;add 9 3;ret 10;";

    public static void main(String[] args) {
        images();
        imagesOfNothing();
        makingSheets();
        laying();
        reading();
        refusedReads();
        tornStays();
        counting();
        Check.finish();
    }

    private static void images() {
        ValueNumberer x = Check.taken(LOOP, 11);
        Check.due("keep(0)", x.keep(0), 0);
        Check.due("replace()", x.replace(), 6);
        Check.due("sweep()", x.sweep(), 5);
        Check.due("keep(1)", x.keep(1), 0);
        Check.due("count(0)", x.count(0), 2);
        Check.due("alter", x.alter(0, 50), 1);
        Check.due("run", x.run(3, 0, 0, 0), 100);
        Check.due("back(0)", x.back(0), 11);
        Check.due("no run", x.went(2), -4);
        Check.due("gone", x.rule(2), 0);
        Check.due("phis", x.rule(3), 2);
        Check.due("operands", x.rule(4), 14);
        Check.due("operand", x.operand(4, 1), 9);
        Check.due("number", x.name(0, 3), 1);
        Check.due("dominators", x.block(2, 7), 7);
        Check.due("preds", x.pred(1, 1), 2);
        Check.due("run again", x.run(3, 0, 0, 0), 6);
        Check.due("back(1)", x.back(1), 11);
        Check.due("gone there", x.rule(2), 5);
        Check.due("number there", x.name(0, 3), 1);
        Check.due("back(0) again", x.back(0), 11);
        Check.due("end of a block", x.block(3, 5), 10);
        Check.due("keep(0) again", x.keep(0), 1);
        Check.due("keep(1) again", x.keep(1), 1);
        Check.due("both are one", x.back(1), 11);
        Check.due("gone no more", x.rule(2), 0);
        Check.due("sweep() behind", x.sweep(), 1);
        int[] wild = {Integer.MIN_VALUE, -1, 2, Integer.MAX_VALUE};
        for (int w : wild) {
            Check.due("keep " + w, x.keep(w), -1);
            Check.due("back " + w, x.back(w), -1);
        }
    }

    private static void imagesOfNothing() {
        ValueNumberer x = new ValueNumberer();
        Check.due("back(0)", x.back(0), -2);
        Check.due("keep(0)", x.keep(0), 0);
        Check.due("count(0)", x.count(0), 1);
        Check.due("back(1)", x.back(1), -2);
        Check.due("run", x.run(0, 0, 0, 0), 2000000000000L);
        Check.due("went(0)", x.went(0), 0);
        Check.due("back(1) again", x.back(1), -2);
        Check.due("what is refused changes nothing", x.went(0), 0);
        Check.due("back(0) of nothing", x.back(0), 0);
        Check.due("no run", x.went(0), -4);
        Check.feedAll(x, "block;num 1;ret 0;");
        Check.due("text()", x.text(), 1);
        Check.due("images are gone", x.back(0), -2);
        Check.due("keep(0) anew", x.keep(0), 0);
        Check.feedAll(x, "bloc");
        Check.due("tape is no part of an image", x.back(0), 1);
        Check.due("count(1)", x.count(1), 4);
        Check.due("text() refused", x.text(), -10);
        Check.due("images stay", x.back(0), 1);
        Check.due("fault() stays", x.fault(), 2);
    }

    private static void makingSheets() {
        ValueNumberer x = new ValueNumberer();
        Check.due("sheet", x.sheet(0, 0, 0), 1);
        Check.due("cells", x.count(2), 0);
        Check.due("sheet of 40", x.sheet(0, 2, 40), 1);
        Check.due("cells then", x.count(2), 40);
        Check.due("41", x.sheet(0, 0, 41), -1);
        Check.due("-1", x.sheet(0, 0, -1), -14);
        Check.due("MIN", x.sheet(0, 0, Integer.MIN_VALUE), -14);
        Check.due("MAX", x.sheet(0, 0, Integer.MAX_VALUE), -1);
        Check.due("k -1", x.sheet(-1, 0, 1), -1);
        Check.due("k 4", x.sheet(4, 0, 1), -1);
        Check.due("lane -1", x.sheet(0, -1, 1), -1);
        Check.due("lane 3", x.sheet(0, 3, 1), -1);
        Check.due("k 4, n -1", x.sheet(4, 0, -1), -1);
        Check.due("lane 3, n -1", x.sheet(0, 3, -1), -1);
        Check.due("cells stay", x.count(2), 40);
        for (int k = 0; k < 4; k++) Check.due("sheet " + k, x.sheet(k, k % 3, 10 * k), 1);
        Check.due("cells of sheet 0", x.count(2), 0);
    }

    private static void laying() {
        ValueNumberer x = Check.taken(SUM, 11);
        Check.due("lay on nothing", x.lay(0, 0, 1), -11);
        Check.due("lay on nothing, wild", x.lay(0, -7, 1), -11);
        for (int lane = 0; lane < 3; lane++) {
            Check.due("sheet", x.sheet(lane, lane, 4), 1);
            Check.due("lay", x.lay(lane, 0, 0x12345680), 1);
            Check.due("lay the last", x.lay(lane, 3, 1), 1);
            Check.due("lay beyond", x.lay(lane, 4, 1), -12);
            Check.due("lay -1", x.lay(lane, -1, 1), -12);
            Check.due("lay MAX", x.lay(lane, Integer.MAX_VALUE, 1), -12);
            Check.due("lay MIN", x.lay(lane, Integer.MIN_VALUE, 1), -12);
            Check.due("read", x.read(lane, lane, 0, 1), 1);
            long want = lane == 0 ? -128 : lane == 1 ? 0x5680 : 0x12345680;
            Check.due("cell of lane " + lane, x.value(0), want);
            Check.due("cell 1", x.value(1), 0);
            Check.due("cell 3", x.value(3), 1);
        }
        Check.due("lay a short below 0", x.lay(1, 1, 0x18000), 1);
        Check.due("read it", x.read(1, 1, 0, 1), 1);
        Check.due("its value", x.value(1), -32768);
        Check.due("k -1", x.lay(-1, 0, 0), -1);
        Check.due("k 4", x.lay(4, 0, 0), -1);
        Check.due("a new row", x.sheet(1, 1, 4), 1);
        Check.due("read the new row", x.read(1, 1, 0, 1), 1);
        Check.due("its cells are 0", x.value(10), 0);
        Check.due("lay on 0 cells", x.sheet(3, 0, 0) + x.lay(3, 0, 0), 1 - 12);
    }

    private static ValueNumberer withSheet(int k, int lane, int n) {
        ValueNumberer x = Check.taken(SUM, 11);
        Check.due("sheet", x.sheet(k, lane, n), 1);
        for (int i = 0; i < n; i++) Check.due("lay " + i, x.lay(k, i, i + 1), 1);
        return x;
    }

    private static void reading() {
        ValueNumberer x = withSheet(2, 0, 12);
        Check.due("one", x.read(2, 0, 0, 1), 1);
        Check.due("torn()", x.torn(), 0);
        Check.due("its value", x.value(10), 1234);
        Check.due("from cell 3", x.read(2, 0, 3, 1), 1);
        Check.due("its value", x.value(10), 4567);
        Check.due("three", x.read(2, 0, 0, 3), 3);
        Check.due("the latest", x.value(10), 9000 + 1000 + 110 + 12);
        Check.due("went", x.went(2), 1);
        Check.due("the last four", x.read(2, 0, 8, 1), 1);
        Check.due("torn() then", x.torn(), 0);
        ValueNumberer y = withSheet(3, 2, 40);
        Check.due("ten", y.read(3, 2, 0, 10), 10);
        Check.due("twenty", y.read(3, 2, 0, 20), 10);
        Check.due("torn() of twenty", y.torn(), 2);
        ValueNumberer z = new ValueNumberer();
        z.sheet(0, 1, 8);
        Check.due("runs without blocks", z.read(0, 1, 0, 2), 2);
        Check.due("went(0)", z.went(0), 0);
    }

    private static void refusedReads() {
        ValueNumberer x = withSheet(2, 1, 11);
        Check.due("a row too short", x.read(2, 1, 0, 3), 2);
        Check.due("torn()", x.torn(), 2);
        Check.due("the latest whole one", x.value(10), 5678);
        Check.due("from cell 8", x.read(2, 1, 8, 1), 0);
        Check.due("torn()", x.torn(), 2);
        Check.due("the latest stays", x.value(10), 5678);
        int[] wild = {Integer.MIN_VALUE, -4, -1, 9, 11, 40, Integer.MAX_VALUE, Integer.MAX_VALUE - 3};
        for (int w : wild) {
            Check.due("from " + w, x.read(2, 1, w, 2), 0);
            Check.due("torn() from " + w, x.torn(), 2);
        }
        Check.due("as bytes", x.read(2, 0, 0, 1), 0);
        Check.due("torn() as bytes", x.torn(), 3);
        Check.due("as ints, wild", x.read(2, 2, -1, 1), 0);
        Check.due("torn() as ints", x.torn(), 3);
        Check.due("nothing", x.read(0, 0, -1, 1), 0);
        Check.due("torn() of nothing", x.torn(), 1);
        Check.due("the latest stays behind all", x.value(10), 5678);
        Check.due("no cells", x.sheet(0, 0, 0), 1);
        Check.due("read of no cells", x.read(0, 0, 0, 1), 0);
        Check.due("torn() of no cells", x.torn(), 2);
        Check.due("read of no cells as shorts", x.read(0, 1, 0, 1), 0);
        Check.due("torn() of them", x.torn(), 3);
        int[] wrong = {Integer.MIN_VALUE, -1, 21, Integer.MAX_VALUE};
        for (int w : wrong) {
            Check.due("k " + w, x.read(w, 1, 0, 1), -1);
            Check.due("lane " + w, x.read(2, w, 0, 1), -1);
            Check.due("n " + w, x.read(2, 1, 0, w), -1);
        }
        Check.due("k 4", x.read(4, 1, 0, 1), -1);
        Check.due("lane 3", x.read(2, 3, 0, 1), -1);
    }

    private static void tornStays() {
        ValueNumberer x = withSheet(2, 1, 4);
        Check.due("read as bytes", x.read(2, 0, 0, 1), 0);
        Check.due("BAD", x.read(2, 0, 0, 21), -1);
        Check.due("torn() behind BAD", x.torn(), 3);
        x.sheet(2, 1, -1);
        x.lay(0, 0, 0);
        Check.due("torn() behind other faults", x.torn(), 3);
        Check.due("no runs", x.read(2, 1, 0, 0), 0);
        Check.due("torn() of no runs", x.torn(), 0);
    }

    private static void counting() {
        ValueNumberer x = Check.taken("block;num 98;num 99;arg 3;num 0;add 0 0;ret 0;", 5);
        Check.due("numbers", x.count(3), 197);
        Check.due("alter", x.alter(3, 5), 0);
        Check.due("numbers then", x.count(3), 202);
        Check.due("sweep()", x.sweep(), 4);
        Check.due("numbers behind sweep()", x.count(3), 98);
        Check.due("bytes", x.feed(1) + x.feed(2), 3);
        Check.due("count(1)", x.count(1), 2);
        Check.due("count(0)", x.count(0), 0);
        x.keep(1);
        Check.due("count(0) then", x.count(0), 1);
        x.keep(1);
        Check.due("count(0) again", x.count(0), 1);
        Check.due("count(2)", x.count(2), -4);
        x.sheet(1, 0, 3);
        Check.due("sheet 1 is not sheet 0", x.count(2), -4);
        x.sheet(0, 0, 3);
        Check.due("count(2) then", x.count(2), 3);
        int[] wild = {Integer.MIN_VALUE, -1, 4, Integer.MAX_VALUE};
        for (int w : wild) Check.due("count " + w, x.count(w), -1);
    }
}
