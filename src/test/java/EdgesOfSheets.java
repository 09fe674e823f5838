/** Boundaries of sheets ("Terms"), and of promises 26 to 32: images, sheets, counts. */
final class EdgesOfSheets {
    private static final long NOTHING = 2000000000000L;
    private static final int MIN = -2147483648, MAX = 2147483647;
    private static final String FOUR = "block;arg0;arg1;arg2;arg3;ret3;";

    private EdgesOfSheets() {
    }

    static void all() {
        lanes();
        faults();
        keeping();
        badKeep();
        backTo();
        badBack();
        newRows();
        badSheets();
        laying();
        badLay();
        reading();
        torn();
        badRead();
        latestFault();
        counting();
        badCount();
    }

    /** A sheet whose cells are 1 on. */
    private static ValueNumberer withSheet(int k, int lane, int n) {
        ValueNumberer x = Check.taken(FOUR, 4);
        Check.due("sheet", x.sheet(k, lane, n), 1);
        for (int i = 0; i < n; i++) Check.due("lay " + i, x.lay(k, i, i + 1), 1);
        return x;
    }

    private static void dueValues(ValueNumberer x, long... want) {
        for (int n = 0; n < 4; n++) Check.due("value(" + n + ")", x.value(n), want[n]);
    }

    private static void dueRead(ValueNumberer x, int[] call, int done, int fault) {
        String told = "read(" + call[0] + ", " + call[1] + ", " + call[2] + ", " + call[3] + ")";
        Check.due(told, x.read(call[0], call[1], call[2], call[3]), done);
        Check.due("torn() behind " + told, x.torn(), fault);
    }

    private static void lanes() {
        Check.sentence("Terms", "SHEETS 0 to 3 are rows of BYTES (lane 0), SHORTS (1), INTS (2) with 0 to 40 CELLS, or nothing (at first).");
        ValueNumberer x = Check.taken(FOUR, 4);
        for (int k = 0; k <= 3; k++) Check.due("nothing at first", x.lay(k, 0, 0), -11);
        for (int k = -1; k <= 4; k++) Check.due("SHEET " + k, x.sheet(k, 0, 1), k < 0 || k > 3 ? -1 : 1);
        for (int lane = -1; lane <= 3; lane++) Check.due("lane " + lane, x.sheet(0, lane, 1), lane < 0 || lane > 2 ? -1 : 1);
        for (int n : new int[] {0, 1, 39, 40}) {
            Check.due("CELLS " + n, x.sheet(0, 0, n), 1);
            Check.due("as many", x.count(2), n);
            Check.due("the last", x.lay(0, n - 1, 5), n == 0 ? -12 : 1);
            Check.due("one more", x.lay(0, n, 5), -12);
        }
        Check.due("CELLS 41", x.sheet(0, 0, 41), -1);
        dueCells(0, new int[] {127, 128, -128, -129}, new int[] {127, -128, -128, 127});
        dueCells(1, new int[] {32767, 32768, -32768, -32769}, new int[] {32767, -32768, -32768, 32767});
        dueCells(2, new int[] {MAX, MIN, MAX - 1, MIN + 1}, new int[] {MAX, MIN, MAX - 1, MIN + 1});
    }

    /** What four cells of a lane tell when these values have been laid there. */
    private static void dueCells(int lane, int[] laid, int[] want) {
        ValueNumberer x = Check.taken(FOUR, 4);
        Check.due("sheet", x.sheet(3, lane, 4), 1);
        for (int i = 0; i < 4; i++) Check.due("lay " + laid[i], x.lay(3, i, laid[i]), 1);
        dueRead(x, new int[] {3, lane, 0, 1}, 1, 0);
        for (int i = 0; i < 4; i++) Check.due("CELL of lane " + lane + " from " + laid[i], x.value(i), want[i]);
    }

    private static void faults() {
        Check.sentence("Terms", "A FAULT is what the machine finds: 1 NULL (nothing), 2 INDEX, 3 CAST (another lane), 4 SIZE (below 0).");
        ValueNumberer x = withSheet(1, 1, 4);
        Check.due("NULL by lay", x.lay(0, 0, 0), -11);
        Check.due("NULL by lay beyond", x.lay(0, 40, 0), -11);
        for (int lane = 0; lane <= 2; lane++) dueRead(x, new int[] {0, lane, 0, 1}, 0, 1);
        Check.due("INDEX by lay", x.lay(1, 4, 0), -12);
        Check.due("no INDEX by lay", x.lay(1, 3, 4), 1);
        dueRead(x, new int[] {1, 1, 0, 1}, 1, 0);
        dueRead(x, new int[] {1, 1, 1, 1}, 0, 2);
        dueRead(x, new int[] {1, 1, -1, 1}, 0, 2);
        dueRead(x, new int[] {1, 0, 0, 1}, 0, 3);
        dueRead(x, new int[] {1, 2, 0, 1}, 0, 3);
        dueRead(x, new int[] {1, 2, 1, 1}, 0, 3);
        Check.due("SIZE", x.sheet(1, 1, -1), -14);
        Check.due("no SIZE", x.sheet(1, 1, 0), 1);
        // a row without CELLS is not nothing
        dueRead(x, new int[] {1, 1, 0, 1}, 0, 2);
        dueRead(x, new int[] {1, 0, 0, 1}, 0, 3);
        dueRead(x, new int[] {1, 2, 0, 1}, 0, 3);
    }

    // ---- Promises 26 and 27

    private static void keeping() {
        Check.sentence("Promise 26", "IMAGE k (0, 1) is BLOCKS, NAMES (all of them): whether there was one (1, 0).");
        ValueNumberer x = new ValueNumberer();
        Check.due("keep(0) of none", x.keep(0), 0);
        Check.due("keep(0) again", x.keep(0), 1);
        Check.due("keep(1) is another", x.keep(1), 0);
        Check.due("keep(1) again", x.keep(1), 1);
        Check.due("back(0) of none", x.back(0), 0);
        ValueNumberer y = Check.taken("block;num 1;num 2;neg 1;add 0 0;if 3 1 2;block;num 3;goto 2;block;ret 0;", 5);
        Check.due("sweep()", y.sweep(), 3);
        Check.due("keep(0)", y.keep(0), 0);
        Check.due("alter", y.alter(0, 50), 1);
        Check.due("keep(1)", y.keep(1), 0);
        Check.due("back(0)", y.back(0), 5);
        ValueNumberer z = Check.taken("block;num 1;num 2;neg 1;add 0 0;if 3 1 2;block;num 3;goto 2;block;ret 0;", 5);
        Check.due("sweep()", z.sweep(), 3);
        Check.due("keep", z.keep(0) + z.keep(1), 0);
        Picture.dueAlike("all of them, gone ones too", y, z);
        Check.due("back(1)", y.back(1), 5);
        Check.due("the other IMAGE", y.name(0, 3), 50);
        Check.due("back(0) again", y.back(0), 5);
        Check.due("it stays", y.name(0, 3), 1);
    }

    private static void badKeep() {
        Check.sentence("Promise 26", "BAD.");
        ValueNumberer x = Check.taken(FOUR, 4);
        for (int k : new int[] {MIN, -1, 2, 3, MAX}) Check.due("keep(" + k + ")", x.keep(k), -1);
        Check.due("none", x.count(0), 0);
        Check.due("keep(0)", x.keep(0), 0);
        Check.due("keep(1)", x.keep(1), 0);
        Check.due("two", x.count(0), 2);
    }

    private static void backTo() {
        Check.sentence("Promise 27", "All is as IMAGE k: NAMES.");
        String twenty = "block;num1;goto1;block;phi0 0 1 2 3 19;phi0 1 2 2 2 2;phi0 2 1 2 2 2;if0 1 2;block;if0 1 3;"
            + "block;if0 1 4;block;if0 1 5;block;" + "num7;".repeat(14) + "neg1;neg2;goto1;";
        ValueNumberer x = Check.taken(twenty, 20);
        Check.due("keep(0)", x.keep(0), 0);
        Check.due("set", x.set(1, 5, 18), 19);
        Check.due("alter", x.alter(0, 0), 1);
        Check.due("replace()", x.replace(), 0);
        Check.due("keep(1)", x.keep(1), 0);
        Check.due("back(0)", x.back(0), 20);
        Check.due("operand(1, 5)", x.operand(1, 5), 19);
        Check.due("name(0, 3)", x.name(0, 3), 1);
        Check.due("OPERANDS", x.rule(4), 24);
        Check.due("PREDS", x.block(1, 6), 6);
        for (int b = 0; b < 6; b++) {
            Check.due("END", x.block(b, 2), b == 0 || b == 5 ? 0 : 1);
            Check.due("first BLOCK", x.block(b, 3), 1);
            Check.due("what DOMINATES it", x.block(b, 7), (2 << b) - 1);
        }
        Check.due("back(1)", x.back(1), 20);
        Check.due("operand(1, 5) there", x.operand(1, 5), 18);
        Check.due("name(0, 3) there", x.name(0, 3), 0);
        // of another size, and of none
        ValueNumberer y = new ValueNumberer();
        Check.due("keep(1) of none", y.keep(1), 0);
        Check.due("back(1) of none", y.back(1), 0);
        Check.due("no BLOCKS", y.rule(0), 0);
        Check.due("run", y.run(0, 0, 0, 0), NOTHING);
    }

    private static void badBack() {
        Check.sentence("Promise 27", "BAD; STATE: there is none.");
        ValueNumberer x = Check.taken(FOUR, 4);
        for (int k : new int[] {MIN, -1, 2, 3, MAX}) Check.due("back(" + k + ")", x.back(k), -1);
        Check.due("back(0)", x.back(0), -2);
        Check.due("back(1)", x.back(1), -2);
        Check.due("keep(1)", x.keep(1), 0);
        Check.due("back(0) still", x.back(0), -2);
        Check.due("back(1) then", x.back(1), 4);
        Check.due("back(2)", x.back(2), -1);
        Check.feedAll(x, FOUR);
        Check.due("text()", x.text(), 4);
        Check.due("back(1) behind text()", x.back(1), -2);
    }

    // ---- Promises 28 and 29

    private static void newRows() {
        Check.sentence("Promise 28", "A SHEET is a new row of CELLS 0: 1.");
        for (int lane = 0; lane <= 2; lane++) {
            ValueNumberer x = withSheet(2, lane, 40);
            dueRead(x, new int[] {2, lane, 36, 1}, 1, 0);
            dueValues(x, 37, 38, 39, 40);
            Check.due("a row of 4", x.sheet(2, lane, 4), 1);
            dueRead(x, new int[] {2, lane, 0, 1}, 1, 0);
            dueValues(x, 0, 0, 0, 0);
            dueRead(x, new int[] {2, lane, 1, 1}, 0, 2);
            Check.due("a row of 40", x.sheet(2, lane, 40), 1);
            for (int f = 0; f < 40; f += 4) {
                dueRead(x, new int[] {2, lane, f, 1}, 1, 0);
                dueValues(x, 0, 0, 0, 0);
            }
            int other = (lane + 1) % 3;
            Check.due("of another lane", x.sheet(2, other, 4), 1);
            dueRead(x, new int[] {2, lane, 0, 1}, 0, 3);
            dueRead(x, new int[] {2, other, 0, 1}, 1, 0);
        }
    }

    private static void badSheets() {
        Check.sentence("Promise 28", "BAD: also n above 40; -10 - 4.");
        ValueNumberer x = new ValueNumberer();
        Check.due("n 0", x.sheet(0, 0, 0), 1);
        Check.due("n -1", x.sheet(0, 0, -1), -14);
        Check.due("n MIN", x.sheet(0, 0, MIN), -14);
        Check.due("n 39", x.sheet(0, 0, 39), 1);
        Check.due("n 40", x.sheet(0, 0, 40), 1);
        Check.due("n 41", x.sheet(0, 0, 41), -1);
        Check.due("n MAX", x.sheet(0, 0, MAX), -1);
        for (int w : new int[] {MIN, -1, 4, MAX}) {
            Check.due("k " + w, x.sheet(w, 0, 1), -1);
            Check.due("k " + w + ", n -1", x.sheet(w, 0, -1), -1);
        }
        for (int w : new int[] {MIN, -1, 3, MAX}) {
            Check.due("lane " + w, x.sheet(0, w, 1), -1);
            Check.due("lane " + w + ", n -1", x.sheet(0, w, -1), -1);
        }
        Check.due("it stays", x.count(2), 40);
    }

    private static void laying() {
        Check.sentence("Promise 29", "CELL i of a SHEET becomes v (its lowest bits): 1.");
        dueCells(0, new int[] {126, 127, 128, 129}, new int[] {126, 127, -128, -127});
        dueCells(0, new int[] {-127, -128, -129, -130}, new int[] {-127, -128, 127, 126});
        dueCells(0, new int[] {255, 256, 257, -256}, new int[] {-1, 0, 1, 0});
        dueCells(0, new int[] {MAX, MIN, -1, 0x12345680}, new int[] {-1, 0, -1, -128});
        dueCells(1, new int[] {32766, 32767, 32768, 32769}, new int[] {32766, 32767, -32768, -32767});
        dueCells(1, new int[] {-32767, -32768, -32769, -32770}, new int[] {-32767, -32768, 32767, 32766});
        dueCells(1, new int[] {65535, 65536, 65537, -65536}, new int[] {-1, 0, 1, 0});
        dueCells(1, new int[] {MAX, MIN, 128, 0x12348000}, new int[] {-1, 0, 128, -32768});
        dueCells(2, new int[] {MAX, MIN, 65536, 32768}, new int[] {MAX, MIN, 65536, 32768});
        ValueNumberer x = withSheet(0, 2, 5);
        Check.due("the first", x.lay(0, 0, 70), 1);
        Check.due("the last", x.lay(0, 4, 74), 1);
        dueRead(x, new int[] {0, 2, 0, 1}, 1, 0);
        dueValues(x, 70, 2, 3, 4);
        dueRead(x, new int[] {0, 2, 1, 1}, 1, 0);
        dueValues(x, 2, 3, 4, 74);
    }

    private static void badLay() {
        Check.sentence("Promise 29", "BAD: k; -10 less the FAULT: NULL, INDEX.");
        ValueNumberer x = withSheet(3, 0, 4);
        for (int w : new int[] {MIN, -1, 4, MAX}) Check.due("k " + w, x.lay(w, 0, 0), -1);
        Check.due("k 3", x.lay(3, 0, 1), 1);
        Check.due("k 0, nothing", x.lay(0, 0, 0), -11);
        Check.due("k 0, nothing, i -1", x.lay(0, -1, 0), -11);
        for (int i : new int[] {MIN, -1, 4, 40, MAX}) Check.due("i " + i, x.lay(3, i, 9), -12);
        Check.due("i 3", x.lay(3, 3, 4), 1);
        dueRead(x, new int[] {3, 0, 0, 1}, 1, 0);
        dueValues(x, 1, 2, 3, 4);
        Check.due("no CELLS", x.sheet(3, 0, 0), 1);
        Check.due("i 0 of none", x.lay(3, 0, 0), -12);
        Check.due("i -1 of none", x.lay(3, -1, 0), -12);
    }

    // ---- Promises 30 to 32

    private static void reading() {
        Check.sentence("Promise 30", "n RUNS (0 to 20) with arguments that are read of a SHEET taken as of a lane, four CELLS each from CELL f on, "
            + "each the latest RUN then: how many were done.");
        ValueNumberer x = withSheet(0, 0, 40);
        dueRead(x, new int[] {0, 0, 0, 0}, 0, 0);
        Check.due("0 RUNS are no RUN", x.went(0), -4);
        dueRead(x, new int[] {0, 0, 0, 1}, 1, 0);
        dueValues(x, 1, 2, 3, 4);
        dueRead(x, new int[] {0, 0, 1, 1}, 1, 0);
        dueValues(x, 2, 3, 4, 5);
        dueRead(x, new int[] {0, 0, 0, 2}, 2, 0);
        dueValues(x, 5, 6, 7, 8);
        dueRead(x, new int[] {0, 0, 3, 9}, 9, 0);
        dueValues(x, 36, 37, 38, 39);
        dueRead(x, new int[] {0, 0, 0, 10}, 10, 0);
        dueValues(x, 37, 38, 39, 40);
        Check.due("the latest RUN alone", x.went(1), 4);
        dueRead(x, new int[] {0, 0, 0, 20}, 10, 2);
        Check.due("21 RUNS", x.read(0, 0, 0, 21), -1);
        Check.due("-1 RUNS", x.read(0, 0, 0, -1), -1);
        dueRead(x, new int[] {0, 0, 8, 0}, 0, 0);
        dueValues(x, 37, 38, 39, 40);
        ValueNumberer y = new ValueNumberer();
        Check.due("sheet", y.sheet(0, 1, 4), 1);
        dueRead(y, new int[] {0, 1, 0, 1}, 1, 0);
        Check.due("without BLOCKS", y.went(0), 0);
    }

    private static void torn() {
        Check.sentence("Promise 30", "What the machine refuses: those whose four were whole ahead were done (its FAULT is asked by torn()).");
        for (int lane = 0; lane <= 2; lane++) {
            for (int n = 3; n <= 9; n++) {
                ValueNumberer x = withSheet(1, lane, n);
                int whole = n / 4;
                dueRead(x, new int[] {1, lane, 0, whole}, whole, 0);
                dueRead(x, new int[] {1, lane, 0, whole + 1}, whole, 2);
                Check.due("the latest whole one", x.value(3), whole == 0 ? NOTHING : 4 * whole);
                dueRead(x, new int[] {1, lane, n - 4, 1}, n < 4 ? 0 : 1, n < 4 ? 2 : 0);
                dueRead(x, new int[] {1, lane, n - 3, 1}, 0, 2);
                dueRead(x, new int[] {1, lane, n, 1}, 0, 2);
            }
        }
        ValueNumberer x = withSheet(1, 1, 8);
        for (int f : new int[] {MIN, MIN + 1, -5, -4, -3, -2, -1, 5, 6, 7, 8, 40, MAX - 4, MAX - 3, MAX - 2, MAX}) {
            dueRead(x, new int[] {1, 1, f, 1}, 0, 2);
            dueRead(x, new int[] {1, 1, f, 20}, 0, 2);
        }
        Check.due("none was done", x.went(0), -4);
        dueRead(x, new int[] {1, 1, 4, 20}, 1, 2);
        dueValues(x, 5, 6, 7, 8);
        dueRead(x, new int[] {1, 0, 0, 20}, 0, 3);
        dueRead(x, new int[] {2, 1, 0, 20}, 0, 1);
        dueValues(x, 5, 6, 7, 8);
    }

    private static void badRead() {
        Check.sentence("Promise 30", "BAD: k, lane, n.");
        ValueNumberer x = withSheet(0, 1, 40);
        for (int w : new int[] {MIN, -1, 4, MAX}) Check.due("k " + w, x.read(w, 1, 0, 1), -1);
        for (int w : new int[] {MIN, -1, 3, MAX}) Check.due("lane " + w, x.read(0, w, 0, 1), -1);
        for (int w : new int[] {MIN, -1, 21, MAX}) Check.due("n " + w, x.read(0, 1, 0, w), -1);
        Check.due("k 3", x.read(3, 1, 0, 1), 0);
        Check.due("lane 0", x.read(0, 0, 0, 1), 0);
        Check.due("lane 2", x.read(0, 2, 0, 1), 0);
        Check.due("n 20", x.read(0, 1, 0, 20), 10);
        Check.due("n 0", x.read(0, 1, 0, 0), 0);
        Check.due("f is never BAD", x.read(0, 1, MIN, 1), 0);
    }

    private static void latestFault() {
        Check.sentence("Promise 31", "The FAULT of the latest read() that was not BAD; 0.");
        ValueNumberer x = withSheet(0, 1, 4);
        Check.due("no read() as yet", x.torn(), 0);
        dueRead(x, new int[] {1, 1, 0, 1}, 0, 1);
        Check.due("BAD k", x.read(4, 1, 0, 1), -1);
        Check.due("it stays", x.torn(), 1);
        dueRead(x, new int[] {0, 1, 1, 1}, 0, 2);
        Check.due("BAD lane", x.read(0, 3, 0, 1), -1);
        Check.due("it stays", x.torn(), 2);
        dueRead(x, new int[] {0, 0, 0, 1}, 0, 3);
        Check.due("BAD n", x.read(0, 1, 0, 21), -1);
        Check.due("it stays", x.torn(), 3);
        Check.due("lay's FAULT is none of it", x.lay(2, 0, 0), -11);
        Check.due("sheet's FAULT is none of it", x.sheet(2, 0, -1), -14);
        Check.due("it stays", x.torn(), 3);
        Check.due("keep, back", x.keep(0) + x.back(0), 4);
        Check.due("it stays", x.torn(), 3);
        dueRead(x, new int[] {0, 1, 0, 1}, 1, 0);
        dueRead(x, new int[] {0, 1, 0, 2}, 1, 2);
        dueRead(x, new int[] {0, 1, 0, 0}, 0, 0);
    }

    private static void counting() {
        Check.sentence("Promise 32", "How many: 0 IMAGES, 1 bytes on THE TAPE, 2 CELLS of SHEET 0 (NONE: nothing), 3 NUMBERS of all num, summed "
            + "(VOID as 99).");
        ValueNumberer x = new ValueNumberer();
        dueCounts(x, 0, 0, -4, 0);
        Check.due("keep(1)", x.keep(1), 0);
        Check.due("feed", x.feed(0), 1);
        Check.due("sheet 1", x.sheet(1, 2, 7), 1);
        dueCounts(x, 1, 1, -4, 0);
        Check.due("keep(1) again", x.keep(1), 1);
        Check.due("sheet 0", x.sheet(0, 2, 0), 1);
        dueCounts(x, 1, 1, 0, 0);
        Check.due("keep(0)", x.keep(0), 0);
        Check.due("sheet 0", x.sheet(0, 0, 40), 1);
        dueCounts(x, 2, 1, 40, 0);
        Check.due("end", x.end(0), 1);
        dueCounts(x, 2, 0, 40, 0);
        Check.feedAll(x, " ".repeat(320));
        dueCounts(x, 2, 320, 40, 0);
        Check.due("text()", x.text(), 0);
        dueCounts(x, 0, 0, 40, 0);
        Check.due("twenty VOID", Check.taken("block;" + "num99;".repeat(20) + "ret0;", 20).count(3), 1980);
        ValueNumberer y = Check.taken("block;num 0;num 98;num 99;arg 3;ret 0;", 4);
        Check.due("NUMBERS", y.count(3), 197);
        Check.due("alter", y.alter(0, 2), 0);
        Check.due("then", y.count(3), 199);
        Check.due("sweep()", y.sweep(), 3);
        Check.due("those that are", y.count(3), 2);
    }

    private static void dueCounts(ValueNumberer x, int... want) {
        for (int what = 0; what < want.length; what++) Check.due("count(" + what + ")", x.count(what), want[what]);
    }

    private static void badCount() {
        Check.sentence("Promise 32", "BAD.");
        ValueNumberer x = new ValueNumberer();
        Check.due("count(-1)", x.count(-1), -1);
        Check.due("count(0)", x.count(0), 0);
        Check.due("count(3)", x.count(3), 0);
        Check.due("count(4)", x.count(4), -1);
        Check.due("count(MIN)", x.count(MIN), -1);
        Check.due("count(MAX)", x.count(MAX), -1);
    }
}
