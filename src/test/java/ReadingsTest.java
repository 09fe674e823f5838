/** Where the document's words leave room: how the class reads them (NOTES.md tells them, too). */
public final class ReadingsTest {
    public static void main(String[] args) {
        sweptLoops();
        allGone();
        ownNumbers();
        formsByNow();
        phiBehindTwenty();
        noRunsOfNoSheet();
        Check.finish();
    }

    /** Promise 22: those are needed to which a way leads from if, ret; phis that need only one another are not. */
    private static void sweptLoops() {
        ValueNumberer x = Check.taken("block;num 1;arg 0;goto 1;block;phi 0 5;phi 0 6;less 2 1;add 2 0;add 3 0;if 4 1 2;block;ret 2;", 7);
        Check.due("sweep()", x.sweep(), 2);
        Check.due("kind 3", x.name(3, 0), 8);
        Check.due("kind 6", x.name(6, 0), 8);
        Check.due("phi", x.rule(3), 1);
        Check.due("run", x.run(4, 0, 0, 0), 4);
        x = Check.taken("block;num 1;goto 1;block;phi 0 2;phi 0 1;if 0 1 2;block;ret 0;", 3);
        Check.due("two phis", x.sweep(), 2);
        Check.due("gone", x.rule(2), 2);
        x = Check.taken("block;num 1;goto 1;block;phi 0 1;if 0 1 2;block;ret 0;", 2);
        Check.due("one phi", x.sweep(), 1);
        Check.due("gone", x.rule(2), 1);
        x = Check.taken("block;num1;goto1;block;phi0 0 1 2 3 19;phi0 1 2 2 2 2;phi0 2 1 2 2 2;if0 1 2;block;if0 1 3;"
            + "block;if0 1 4;block;if0 1 5;block;" + "num7;".repeat(14) + "neg1;neg2;goto1;", 20);
        Check.due("all but one", x.sweep(), 19);
        Check.due("gone", x.rule(2), 19);
    }

    /** Promise 15: classes(2) leaves gone names out, as classes(0) does. */
    private static void allGone() {
        ValueNumberer x = Check.taken("block;num 1;goto 1;block;goto 1;", 1);
        Check.due("sweep()", x.sweep(), 1);
        for (int what = 0; what <= 2; what++) Check.due("classes " + what, x.classes(what), 0);
    }

    private static void dueForms(ValueNumberer x, int... want) {
        for (int n = 0; n < want.length; n++) Check.due("form(" + n + ")", x.form(n), want[n]);
    }

    /** Same phis: no operand of the one is that one or behind it, nor one of the other that other or behind it. */
    private static void ownNumbers() {
        dueForms(Check.taken("block;arg 0;num 3;goto 1;block;phi 0 2;phi 0 2;goto 1;", 4), 0, -4, 2, 3);
        dueForms(Check.taken("block;arg 0;goto 1;block;phi 0 1;phi 0 1;phi 0 0;phi 0 0;if 0 1 2;block;ret 2;", 5), 0, 1, 2, 0, 0);
        dueForms(Check.taken("block;arg 0;goto 3;block;num 7;goto 2;block;phi 2 0;phi 2 0;goto 1;block;goto 2;", 4), 0, -4, 2, 3);
    }

    /** Forms of operands are as they are by now, also those of a name ahead. */
    private static void formsByNow() {
        // name 0 was formed when name 1 was a name as yet; by now it is a number
        dueForms(Check.taken("block;goto 2;block;less 1 2;ret 0;block;num 7;arg 0;less 1 2;goto 1;", 4), 0, -4, 2, 0);
        // name 5 is as name 3, whose form is not itself, and by now no more as name 1
        dueForms(Check.taken("block;num 0;goto 2;block;less 4 4;add 4 0;less 2 2;goto 3;block;num 7;goto 1;block;less 2 2;ret 5;", 6),
            -4, 1, 4, 1, -4, 5);
    }

    /** A phi behind an op, where there are twenty names already: it can't stand there, whatever its number. */
    private static void phiBehindTwenty() {
        Check.refused("block;" + "num1;".repeat(20) + "phi 0;", 2, 106);
    }

    /** Promise 30: without a run no cell is read, so that the machine finds nothing. */
    private static void noRunsOfNoSheet() {
        ValueNumberer x = new ValueNumberer();
        Check.due("of nothing", x.read(0, 0, 0, 0), 0);
        Check.due("torn()", x.torn(), 0);
        Check.due("sheet", x.sheet(0, 1, 4), 1);
        Check.due("of another lane", x.read(0, 0, 0, 0), 0);
        Check.due("torn()", x.torn(), 0);
        Check.due("from beyond", x.read(0, 1, 40, 0), 0);
        Check.due("torn()", x.torn(), 0);
    }
}
