/** Boundaries that any call has ("Terms", its first line): which answer fits first, and that what is refused changes nothing. */
final class EdgesOfAnswers {
    // 0 arg, 1 arg, 2 num, 3 phi, 4 add, 5 num that nobody needs, 6 add
    private static final String TEXT = "block;arg 0;arg 3;num 7;goto 1;block;phi 0 4;add 3 2;if 4 1 2;block;num 9;add 4 1;ret 6;";

    private interface Call {
        long on(ValueNumberer x);
    }

    private EdgesOfAnswers() {
    }

    static void all() {
        calls();
        constants();
        noSuchThing();
        firstThatFits();
        refusedAsks();
        refusedChanges();
        refusedSheets();
        refusedTape();
        refusedText();
    }

    /** A program that has been changed, a run, an image, two sheets, a tape, and faults of a text and of a read. */
    private static ValueNumberer prepared() {
        ValueNumberer x = Check.taken(TEXT, 7);
        Check.due("sweep()", x.sweep(), 1);
        Check.due("keep(0)", x.keep(0), 0);
        Check.due("alter", x.alter(2, 8), 7);
        Check.due("sheet 0", x.sheet(0, 0, 5), 1);
        for (int i = 0; i < 5; i++) Check.due("lay", x.lay(0, i, -9 - i), 1);
        Check.due("sheet 1", x.sheet(1, 2, 4), 1);
        Check.due("read as of another lane", x.read(0, 1, 0, 1), 0);
        Check.feedAll(x, "block");
        Check.due("a text without an end", x.text(), -15);
        Check.feedAll(x, "xy");
        Check.due("run", x.run(-20, 1, 2, 3), -9);
        return x;
    }

    private static void dueNothingChanged(String call, ValueNumberer x) {
        ValueNumberer y = prepared();
        Picture.dueAlike("behind " + call, x, y);
        for (int f = 0; f <= 1; f++) {
            Check.due("read behind " + call, x.read(0, 0, f, 1), y.read(0, 0, f, 1));
            Check.due("first CELL behind " + call, x.value(0), y.value(0));
            Check.due("last CELL behind " + call, x.value(1), y.value(1));
        }
        Check.due("read of sheet 1 behind " + call, x.read(1, 2, 0, 1), y.read(1, 2, 0, 1));
        Check.due("its CELL behind " + call, x.value(1), y.value(1));
        Check.due("sheet 2 behind " + call, x.lay(2, 0, 0), -11);
        Check.due("back(1) behind " + call, x.back(1), -2);
        Check.due("back(0) behind " + call, x.back(0), 7);
        Check.due("NUMBER of the image behind " + call, x.name(2, 3), 7);
        Check.due("the tape's text behind " + call, x.text(), y.text());
    }

    private static void refused(String what, Call call, long answer) {
        ValueNumberer x = prepared();
        Check.due(what, call.on(x), answer);
        dueNothingChanged(what, x);
    }

    private static void calls() {
        Check.sentence("What it is", "An object is used for at most 512 calls after it has been made");
        ValueNumberer x = new ValueNumberer();
        for (int i = 1; i <= 320; i++) Check.due("call " + i, x.feed(' '), i);
        Check.due("call 321", x.end(0), 320);
        Check.feedAll(x, "block;arg 0;arg 1;add 0 1;ret 2;");
        Check.due("call 355", x.text(), 3);
        for (int i = 356; i <= 510; i++) Check.due("call " + i, x.run(i, 1, 0, 0), i + 1);
        Check.due("call 511", x.value(2), 511);
        Check.due("call 512", x.agree(1, 50, 0, 1, 1), 50);
    }

    private static void constants() {
        Check.sentence("Terms", "The constants: `VOID = 1000000000000L, NOTHING = 2000000000000L`: "
            + "What tells VOID where a VALUE is told; what tells that there is none.");
        Check.due("VOID", ValueNumberer.VOID, 1000000000000L);
        Check.due("NOTHING", ValueNumberer.NOTHING, 2000000000000L);
        ValueNumberer x = Check.taken("block;num 99;num 98;ret 0;", 2);
        Check.due("none", x.value(0), 2000000000000L);
        Check.due("VOID of a run", x.run(0, 0, 0, 0), 1000000000000L);
        Check.due("VOID of a name", x.value(0), 1000000000000L);
        Check.due("beside it", x.value(1), 98);
        Check.due("VOID of a form", x.number(0), 1000000000000L);
    }

    private static void noSuchThing() {
        Check.sentence("Terms", "Answers: BAD -1 (a number is not as told, there is no such BLOCK, NAME, OPERAND, IMAGE, SHEET), "
            + "STATE -2 (as told), FULL -3, NONE -4 (there is none),");
        Check.due("BAD", ValueNumberer.BAD, -1);
        Check.due("STATE", ValueNumberer.STATE, -2);
        Check.due("FULL", ValueNumberer.FULL, -3);
        Check.due("NONE", ValueNumberer.NONE, -4);
        ValueNumberer x = Check.taken("block;arg 0;goto 1;block;add 0 0;ret 1;", 2);
        int[] operands = {0, 2};
        for (int i = -1; i <= 2; i++) {
            boolean isThere = i == 0 || i == 1;
            Check.due("BLOCK " + i, x.block(i, 1), isThere ? 1 : -1);
            Check.due("NAME " + i, x.name(i, 2), isThere ? operands[i] : -1);
        }
        for (int i = -1; i <= 2; i++) Check.due("OPERAND " + i, x.operand(1, i), i < 0 || i > 1 ? -1 : 0);
        for (int k = -1; k <= 2; k++) Check.due("IMAGE " + k, x.keep(k), k < 0 || k > 1 ? -1 : 0);
        for (int k = -1; k <= 4; k++) Check.due("SHEET " + k, x.sheet(k, 0, 1), k < 0 || k > 3 ? -1 : 1);
    }

    private static void firstThatFits() {
        Check.sentence("Terms", "the first that fits;");
        ValueNumberer x = prepared();
        Check.due("back: no such IMAGE, and there is none", x.back(2), -1);
        Check.due("back: there is none", x.back(1), -2);
        Check.due("set: no such OPERAND, and a gone NAME", x.set(4, 2, 5), -1);
        Check.due("set: no such NAME, and a gone one", x.set(7, 0, 5), -1);
        Check.due("set: an OPERAND of a NAME without, and a gone one", x.set(2, 0, 5), -1);
        Check.due("set: a gone NAME", x.set(4, 1, 5), -2);
        Check.due("lay: no such SHEET", x.lay(4, -1, 0), -1);
        Check.due("lay: nothing, and no such CELL", x.lay(3, -1, 0), -11);
        Check.due("sheet: no such SHEET, and below 0", x.sheet(4, 0, -1), -1);
        Check.due("sheet: no such lane, and below 0", x.sheet(0, 3, -1), -1);
        Check.due("sheet: below 0", x.sheet(0, 0, -1), -14);
        Check.due("read: no such lane, of nothing", x.read(3, 3, 0, 1), -1);
        Check.due("block: no such what, where there is none", x.block(0, 9), -1);
        Check.due("block: there is none", x.block(0, 8), -4);
        Check.due("name: no such what", x.name(3, 5), -1);
        Check.due("name: there is none", x.name(3, 3), -4);
        ValueNumberer y = new ValueNumberer();
        Check.due("went: no such what, no RUN", y.went(3), -1);
        Check.due("went: no RUN", y.went(2), -4);
        Check.due("value: no such NAME, no RUN", y.value(0), -1);
        Check.due("agree: no such NAME", y.agree(1, 1, 0, 0, 0), -1);
        for (int i = 1; i <= 320; i++) Check.due("feed", y.feed(' '), i);
        Check.due("feed: no byte, and full", y.feed(128), -1);
        Check.due("feed: no byte below, and full", y.feed(-1), -1);
        Check.due("feed: full", y.feed(127), -3);
    }

    private static void refusedAsks() {
        Check.sentence("Terms", "what is refused changes nothing (but THE TAPE, as told).");
        refused("end(-1)", x -> x.end(-1), -1);
        refused("end(3)", x -> x.end(3), -1);
        refused("feed(-1)", x -> x.feed(-1), -1);
        refused("feed(128)", x -> x.feed(128), -1);
        refused("rule(5)", x -> x.rule(5), -1);
        refused("block(3, 0)", x -> x.block(3, 0), -1);
        refused("pred(0, 0)", x -> x.pred(0, 0), -1);
        refused("name(7, 0)", x -> x.name(7, 0), -1);
        refused("operand(4, 2)", x -> x.operand(4, 2), -1);
        refused("seen(0, 7)", x -> x.seen(0, 7), -1);
        refused("value(7)", x -> x.value(7), -1);
        refused("went(3)", x -> x.went(3), -1);
        refused("classes(3)", x -> x.classes(3), -1);
        refused("part(7)", x -> x.part(7), -1);
        refused("partAt(0, 101)", x -> x.partAt(0, 101), -1);
        refused("leader(7)", x -> x.leader(7), -1);
        refused("form(7)", x -> x.form(7), -1);
        refused("number(7)", x -> x.number(7), -1);
        refused("count(4)", x -> x.count(4), -1);
    }

    private static void refusedChanges() {
        Check.sentence("Terms", "what is refused changes nothing");
        refused("set(4, 2, 0)", x -> x.set(4, 2, 0), -1);
        refused("set(4, 0, 7)", x -> x.set(4, 0, 7), -1);
        refused("set(4, 0, 5), which is gone", x -> x.set(4, 0, 5), -2);
        refused("set(4, 0, 4), itself", x -> x.set(4, 0, 4), -2);
        refused("set(3, 0, 4) at the END of block 0", x -> x.set(3, 0, 4), -2);
        refused("alter(2, 100)", x -> x.alter(2, 100), -1);
        refused("alter(2, -1)", x -> x.alter(2, -1), -1);
        refused("alter(0, 4)", x -> x.alter(0, 4), -1);
        refused("alter(0, -1)", x -> x.alter(0, -1), -1);
        refused("alter(3, 0), a phi", x -> x.alter(3, 0), -1);
        refused("alter(5, 0), which is gone", x -> x.alter(5, 0), -1);
        refused("agree(1, 51, 0, 1, 0)", x -> x.agree(1, 51, 0, 1, 0), -1);
        refused("agree(1, 0, 0, 1, 0)", x -> x.agree(1, 0, 0, 1, 0), -1);
        refused("agree(1, 1, 0, 7, 0)", x -> x.agree(1, 1, 0, 7, 0), -1);
        refused("agree(1, 1, 0, 1, 2)", x -> x.agree(1, 1, 0, 1, 2), -1);
        refused("keep(2)", x -> x.keep(2), -1);
        refused("keep(-1)", x -> x.keep(-1), -1);
        refused("back(2)", x -> x.back(2), -1);
        refused("back(-1)", x -> x.back(-1), -1);
        refused("back(1), of which there is none", x -> x.back(1), -2);
    }

    private static void refusedSheets() {
        Check.sentence("Terms", "what is refused changes nothing");
        refused("sheet(4, 0, 1)", x -> x.sheet(4, 0, 1), -1);
        refused("sheet(-1, 0, 1)", x -> x.sheet(-1, 0, 1), -1);
        refused("sheet(0, 3, 1)", x -> x.sheet(0, 3, 1), -1);
        refused("sheet(0, 0, 41)", x -> x.sheet(0, 0, 41), -1);
        refused("sheet(0, 0, -1)", x -> x.sheet(0, 0, -1), -14);
        refused("sheet(2, 0, -1)", x -> x.sheet(2, 0, -1), -14);
        refused("lay(4, 0, 0)", x -> x.lay(4, 0, 0), -1);
        refused("lay(2, 0, 1)", x -> x.lay(2, 0, 1), -11);
        refused("lay(0, 5, 1)", x -> x.lay(0, 5, 1), -12);
        refused("lay(0, -1, 1)", x -> x.lay(0, -1, 1), -12);
        refused("read(4, 0, 0, 1)", x -> x.read(4, 0, 0, 1), -1);
        refused("read(0, 3, 0, 1)", x -> x.read(0, 3, 0, 1), -1);
        refused("read(0, 0, 0, 21)", x -> x.read(0, 0, 0, 21), -1);
        refused("read(0, 0, 0, -1)", x -> x.read(0, 0, 0, -1), -1);
        refused("read(0, 1, 0, 1), as of another lane once more", x -> x.read(0, 1, 0, 1), 0);
    }

    private static void refusedTape() {
        Check.sentence("Terms", "what is refused changes nothing");
        ValueNumberer x = new ValueNumberer();
        ValueNumberer y = new ValueNumberer();
        String full = "block;num 7;ret 0;" + " ".repeat(302);
        Check.feedAll(x, full);
        Check.feedAll(y, full);
        Check.due("feed beyond", x.feed('?'), -3);
        Check.due("end beyond", x.end(321), -1);
        Check.due("bytes", x.count(1), y.count(1));
        Check.due("text()", x.text(), y.text());
        Picture.dueAlike("behind a byte too many", x, y);
    }

    private static void refusedText() {
        Check.sentence("Terms", "(but THE TAPE, as told)");
        // its fault is the one that there was, so that the tape alone is another
        ValueNumberer x = prepared();
        Check.due("text() of xy", x.text(), -10);
        Check.due("the tape is empty", x.count(1), 0);
        Check.feedAll(x, "xy");
        dueNothingChanged("text() refused", x);
    }
}
