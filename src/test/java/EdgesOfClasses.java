/** Boundaries of classes and leaders ("Terms"), and of promises 15 to 18. */
final class EdgesOfClasses {
    // each round splits one more of the negs
    private static final String CHAIN = "block;arg 0;neg 0;neg 1;neg 2;neg 3;neg 4;ret 5;";

    private EdgesOfClasses() {
    }

    static void all() {
        roundZero();
        nextRound();
        lastRound();
        goneNames();
        leaders();
        classAnswers();
        badClasses();
        partAnswers();
        badParts();
        partAtAnswers();
        badPartAts();
        leaderAnswers();
        badLeaders();
    }

    private static void duePartsAt(ValueNumberer x, int r, int... want) {
        for (int n = 0; n < want.length; n++) Check.due("partAt(" + n + ", " + r + ")", x.partAt(n, r), want[n]);
    }

    private static void dueParts(ValueNumberer x, int... want) {
        for (int n = 0; n < want.length; n++) Check.due("part(" + n + ")", x.part(n), want[n]);
    }

    private static void dueLeaders(ValueNumberer x, int... want) {
        for (int n = 0; n < want.length; n++) Check.due("leader(" + n + ")", x.leader(n), want[n]);
    }

    private static void dueClasses(ValueNumberer x, int... want) {
        for (int what = 0; what < want.length; what++) Check.due("classes(" + what + ")", x.classes(what), want[what]);
    }

    private static void roundZero() {
        Check.sentence("Terms", "ALIKE in ROUND 0 are two NAMES (not gone) of one KIND; of num: with one NUMBER; of arg: with one ARGUMENT; "
            + "of phi: in one BLOCK.");
        ValueNumberer x = Check.taken("block;num 98;num 99;num 97;num 98;num 99;num 0;arg 0;arg 3;arg 2;arg 3;arg 0;ret 0;", 11);
        duePartsAt(x, 0, 0, 1, 2, 0, 1, 5, 6, 7, 8, 7, 6);
        ValueNumberer y = Check.taken("block;num 1;neg 0;neg 1;add 0 1;add 1 2;mul 0 1;mul 1 2;less 0 1;less 1 0;div 0 1;div 1 0;ret 0;", 11);
        duePartsAt(y, 0, 0, 1, 1, 3, 3, 5, 5, 7, 7, 9, 9);
        ValueNumberer z = Check.taken("block;num 1;num 2;goto 1;block;phi 0;phi 1;goto 2;block;phi 0;phi 1;ret 0;", 6);
        duePartsAt(z, 0, 0, 1, 2, 2, 4, 4);
        ValueNumberer g = Check.taken("block;num 1;num 1;num 1;ret 2;", 3);
        duePartsAt(g, 0, 0, 0, 0);
        Check.due("sweep()", g.sweep(), 2);
        duePartsAt(g, 0, 0, 1, 2);
    }

    private static void nextRound() {
        Check.sentence("Terms", "ALIKE in the next ROUND are those that were, and whose OPERANDS were, one by one (of add, mul: or crosswise).");
        for (String op : new String[] {"add", "mul", "less", "div"}) {
            boolean mayCross = op.equals("add") || op.equals("mul");
            String two = "block;arg 0;arg 1;" + op + " 0 1;" + op;
            duePartsAt(Check.taken(two + " 0 1;ret 0;", 4), 1, 0, 1, 2, 2);
            duePartsAt(Check.taken(two + " 1 0;ret 0;", 4), 1, 0, 1, 2, mayCross ? 2 : 3);
            duePartsAt(Check.taken(two + " 0 0;ret 0;", 4), 1, 0, 1, 2, 3);
            duePartsAt(Check.taken(two + " 1 1;ret 0;", 4), 1, 0, 1, 2, 3);
        }
        String phis = "block;arg 0;arg 1;if 0 1 2;block;goto 3;block;goto 3;block;phi 0 1;phi ";
        duePartsAt(Check.taken(phis + "0 1;ret 0;", 4), 1, 0, 1, 2, 2);
        duePartsAt(Check.taken(phis + "1 0;ret 0;", 4), 1, 0, 1, 2, 3);
        duePartsAt(Check.taken(phis + "0 0;ret 0;", 4), 1, 0, 1, 2, 3);
        // what was not ALIKE is not, though its OPERANDS are
        duePartsAt(Check.taken("block;arg 0;arg 0;add 0 1;mul 0 1;less 0 1;div 0 1;neg 0;ret 0;", 7), 1, 0, 0, 2, 3, 4, 5, 6);
        // the OPERANDS count as they were in the ROUND before: one more each time
        ValueNumberer x = Check.taken(CHAIN, 6);
        duePartsAt(x, 0, 0, 1, 1, 1, 1, 1);
        duePartsAt(x, 1, 0, 1, 2, 2, 2, 2);
        duePartsAt(x, 2, 0, 1, 2, 3, 3, 3);
        // two loops that run alike stay so, one that begins otherwise does not
        ValueNumberer y = Check.taken("block;num 0;num 1;num 5;goto 1;block;phi 0 6;phi 0 7;phi 2 8;add 3 1;add 1 4;add 5 1;"
            + "if 3 1 2;block;ret 4;", 9);
        duePartsAt(y, 100, 0, 1, 2, 3, 3, 5, 6, 6, 8);
    }

    private static void lastRound() {
        Check.sentence("Terms", "CLASSES: ALIKE in the first ROUND from which on nothing changes.");
        ValueNumberer x = Check.taken(CHAIN, 6);
        Check.due("its ROUND", x.classes(1), 4);
        duePartsAt(x, 3, 0, 1, 2, 3, 4, 4);
        duePartsAt(x, 4, 0, 1, 2, 3, 4, 5);
        duePartsAt(x, 5, 0, 1, 2, 3, 4, 5);
        dueParts(x, 0, 1, 2, 3, 4, 5);
        ValueNumberer y = Check.taken("block;arg 0;neg 0;neg 0;ret 2;", 3);
        Check.due("nothing changes behind ROUND 0", y.classes(1), 0);
        dueParts(y, 0, 1, 1);
        Check.due("twenty NAMES in a chain", Check.taken(chain(20), 20).classes(1), 18);
        Check.due("nineteen", Check.taken(chain(19), 19).classes(1), 17);
    }

    private static String chain(int names) {
        StringBuilder text = new StringBuilder("block;arg 0;");
        for (int n = 1; n < names; n++) text.append("neg ").append(n - 1).append(";");
        return text.append("ret ").append(names - 1).append(";").toString();
    }

    private static void goneNames() {
        Check.sentence("Terms", "One that is gone is ALIKE to itself alone.");
        ValueNumberer x = Check.taken("block;num 4;num 4;arg 1;arg 1;neg 0;neg 0;neg 4;ret 6;", 7);
        dueParts(x, 0, 0, 2, 2, 4, 4, 6);
        Check.due("sweep()", x.sweep(), 4);
        dueParts(x, 0, 1, 2, 3, 4, 5, 6);
        duePartsAt(x, 0, 0, 1, 2, 3, 4, 5, 4);
        dueLeaders(x, 0, 1, 2, 3, 4, 5, 6);
    }

    private static void leaders() {
        Check.sentence("Terms", "LEADER of a NAME: of its CLASS those that are SEEN at it, and itself: the one of them that is SEEN at all others.");
        // none is seen but itself; one just ahead; one in a block past it; one in a block that dominates
        dueLeaders(Check.taken("block;arg 0;neg 0;ret 1;", 2), 0, 1);
        dueLeaders(Check.taken("block;arg 0;arg 0;arg 0;ret 2;", 3), 0, 0, 0);
        ValueNumberer x = Check.taken("block;arg 0;if 0 1 2;block;neg 0;neg 0;goto 3;block;neg 0;goto 3;block;neg 0;neg 0;ret 4;", 6);
        dueParts(x, 0, 1, 1, 1, 1, 1);
        dueLeaders(x, 0, 1, 1, 3, 4, 4);
        // the one that is seen at all others has a higher number
        dueLeaders(Check.taken("block;goto 2;block;num 4;num 4;ret 0;block;num 4;num 4;goto 1;", 4), 2, 2, 2, 2);
        dueLeaders(Check.taken("block;goto 3;block;num 4;ret 0;block;num 4;goto 1;block;num 4;goto 2;", 3), 2, 2, 2);
        // ahead of it, but of another CLASS
        dueLeaders(Check.taken("block;num 4;num 5;num 4;num 5;ret 3;", 4), 0, 1, 0, 1);
        ValueNumberer y = Check.taken("block;num 0;num 1;goto 1;block;phi 0 5;phi 0 4;add 2 1;add 1 3;if 2 1 2;block;ret 3;", 6);
        dueLeaders(y, 0, 1, 2, 2, 4, 4);
    }

    // ---- Promises 15 to 18

    private static void classAnswers() {
        Check.sentence("Promise 15", "How many CLASSES there are (gone ones not; what 0), the ROUND from which on nothing changes (1), "
            + "how many NAMES the greatest CLASS has (2; 0).");
        dueClasses(new ValueNumberer(), 0, 0, 0);
        dueClasses(Check.taken("block;goto 1;block;goto 1;", 0), 0, 0, 0);
        dueClasses(Check.taken("block;num 1;ret 0;", 1), 1, 0, 1);
        dueClasses(Check.taken("block;num 1;num 2;ret 0;", 2), 2, 0, 1);
        dueClasses(Check.taken("block;num 1;num 1;ret 0;", 2), 1, 0, 2);
        dueClasses(Check.taken("block;num 1;num 2;num 2;num 1;num 2;ret 0;", 5), 2, 0, 3);
        dueClasses(Check.taken("block;" + "num1;".repeat(20) + "ret0;", 20), 1, 0, 20);
        dueClasses(Check.taken(chain(20), 20), 20, 18, 1);
        ValueNumberer x = Check.taken("block;num 1;num 1;num 1;num 2;num 2;add 3 4;ret 5;", 6);
        dueClasses(x, 3, 0, 3);
        Check.due("sweep()", x.sweep(), 3);
        dueClasses(x, 2, 0, 2);
        dueClasses(Check.taken(CHAIN, 6), 6, 4, 1);
    }

    private static void badClasses() {
        Check.sentence("Promise 15", "BAD.");
        ValueNumberer x = Check.taken("block;num 1;num 1;ret 0;", 2);
        Check.due("classes(-1)", x.classes(-1), -1);
        Check.due("classes(0)", x.classes(0), 1);
        Check.due("classes(2)", x.classes(2), 2);
        Check.due("classes(3)", x.classes(3), -1);
        Check.due("classes(MIN)", x.classes(Integer.MIN_VALUE), -1);
        Check.due("classes(MAX)", x.classes(Integer.MAX_VALUE), -1);
        Check.due("classes(3) of none", new ValueNumberer().classes(3), -1);
    }

    private static void partAnswers() {
        Check.sentence("Promise 16", "The first NAME of the CLASS of a NAME.");
        dueParts(Check.taken("block;num 1;num 2;num 1;num 2;num 3;ret 0;", 5), 0, 1, 0, 1, 4);
        // the first is that of the lowest number, seen or not
        dueParts(Check.taken("block;goto 2;block;num 4;ret 0;block;num 4;goto 1;", 2), 0, 0);
        dueParts(Check.taken(chain(20), 20), 0, 1, 2, 3, 4, 5, 6, 7, 8, 9, 10, 11, 12, 13, 14, 15, 16, 17, 18, 19);
    }

    private static void badParts() {
        Check.sentence("Promise 16", "BAD.");
        ValueNumberer x = Check.taken("block;num 1;num 1;ret 0;", 2);
        Check.due("part(-1)", x.part(-1), -1);
        Check.due("part(0)", x.part(0), 0);
        Check.due("part(1)", x.part(1), 0);
        Check.due("part(2)", x.part(2), -1);
        Check.due("part(MIN)", x.part(Integer.MIN_VALUE), -1);
        Check.due("part(MAX)", x.part(Integer.MAX_VALUE), -1);
        Check.due("part(0) of none", new ValueNumberer().part(0), -1);
        ValueNumberer y = Check.taken("block;" + "num1;".repeat(20) + "ret0;", 20);
        Check.due("part(19)", y.part(19), 0);
        Check.due("part(20)", y.part(20), -1);
    }

    private static void partAtAnswers() {
        Check.sentence("Promise 17", "The first NAME that is ALIKE to a NAME in ROUND r (0 to 100).");
        ValueNumberer x = Check.taken(chain(20), 20);
        for (int r : new int[] {0, 1, 16, 17, 18, 19, 99, 100}) {
            Check.due("of the last in ROUND " + r, x.partAt(19, r), Math.min(r + 1, 19));
            Check.due("of the one ahead in ROUND " + r, x.partAt(18, r), Math.min(r + 1, 18));
            Check.due("of the first in ROUND " + r, x.partAt(0, r), 0);
        }
    }

    private static void badPartAts() {
        Check.sentence("Promise 17", "BAD.");
        ValueNumberer x = Check.taken("block;num 1;num 1;ret 0;", 2);
        Check.due("partAt(0, -1)", x.partAt(0, -1), -1);
        Check.due("partAt(1, 0)", x.partAt(1, 0), 0);
        Check.due("partAt(1, 100)", x.partAt(1, 100), 0);
        Check.due("partAt(1, 101)", x.partAt(1, 101), -1);
        Check.due("partAt(-1, 0)", x.partAt(-1, 0), -1);
        Check.due("partAt(2, 0)", x.partAt(2, 0), -1);
        for (int w : new int[] {Integer.MIN_VALUE, Integer.MAX_VALUE}) {
            Check.due("partAt of " + w, x.partAt(w, 0), -1);
            Check.due("partAt in " + w, x.partAt(0, w), -1);
        }
    }

    private static void leaderAnswers() {
        Check.sentence("Promise 18", "LEADER of a NAME.");
        ValueNumberer x = Check.taken("block;" + "num1;".repeat(20) + "ret0;", 20);
        for (int n = 0; n < 20; n++) Check.due("leader(" + n + ")", x.leader(n), 0);
        dueLeaders(Check.taken(chain(20), 20), 0, 1, 2, 3, 4, 5, 6, 7, 8, 9, 10, 11, 12, 13, 14, 15, 16, 17, 18, 19);
        ValueNumberer y = Check.taken("block;num 4;goto 1;block;num 4;goto 2;block;num 4;ret 2;", 3);
        dueLeaders(y, 0, 0, 0);
        Check.due("set by hand", y.alter(0, 5), 4);
        dueLeaders(y, 0, 1, 1);
    }

    private static void badLeaders() {
        Check.sentence("Promise 18", "BAD.");
        ValueNumberer x = Check.taken("block;num 1;num 1;ret 0;", 2);
        Check.due("leader(-1)", x.leader(-1), -1);
        Check.due("leader(0)", x.leader(0), 0);
        Check.due("leader(1)", x.leader(1), 0);
        Check.due("leader(2)", x.leader(2), -1);
        Check.due("leader(MIN)", x.leader(Integer.MIN_VALUE), -1);
        Check.due("leader(MAX)", x.leader(Integer.MAX_VALUE), -1);
        Check.due("leader(0) of none", new ValueNumberer().leader(0), -1);
        ValueNumberer y = Check.taken("block;" + "num1;".repeat(20) + "ret0;", 20);
        Check.due("leader(19)", y.leader(19), 0);
        Check.due("leader(20)", y.leader(20), -1);
    }
}
