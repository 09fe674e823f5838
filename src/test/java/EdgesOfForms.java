/** Boundaries of forms ("Terms"), and of promises 19 and 20. */
final class EdgesOfForms {
    private static final long VOID = 1000000000000L, NOTHING = 2000000000000L;
    private static final long NAME = 3000000000000L;
    private static final int MIN = -2147483648, MAX = 2147483647;
    // 5 is the smallest number, 6 the 1, 7 the -1, 8 the greatest
    private static final String GREAT = "block;num 32;mul 0 0;mul 1 1;mul 2 0;num 64;mul 3 4;num 1;neg 6;add 5 7;";

    private EdgesOfForms() {
    }

    static void all() {
        notAhead();
        nums();
        negs();
        twoNumbers();
        zeroAndOne();
        voids();
        phis();
        same();
        sameArgs();
        samePhis();
        themselves();
        formAnswers();
        badForms();
        numberAnswers();
        badNumbers();
    }

    /** Of each name the number, or the name with NAME added. */
    private static void dueForms(ValueNumberer x, long... want) {
        Check.due("names", x.rule(1), want.length);
        for (int n = 0; n < want.length; n++) dueForm(x, n, want[n]);
    }

    private static void dueForm(ValueNumberer x, int n, long want) {
        boolean isName = want >= NAME;
        Check.due("form(" + n + ")", x.form(n), isName ? want - NAME : -4);
        Check.due("number(" + n + ")", x.number(n), isName ? NOTHING : want);
    }

    /** The form of an op of two names: 0 is arg 0, 1 arg 1, 2 the number 0, 3 the 1, 4 the 2, 5 the -1, 6 VOID; 7 is the op. */
    private static void dueOp(String op, long want) {
        dueForm(Check.taken("block;arg 0;arg 1;num 0;num 1;num 2;neg 3;num 99;" + op + ";ret 0;", 8), 7, want);
    }

    private static void notAhead() {
        Check.sentence("Terms", "FORMS, by order of NAMES: each is a NUMBER (VOID, too) or a NAME; that of one which is not ahead is that NAME "
            + "itself as yet.");
        dueForms(Check.taken("block;num 0;num 99;arg 0;ret 0;", 3), 0, VOID, NAME + 2);
        // a num that dominates, but is told later, is a NAME as yet; told ahead it is its NUMBER
        dueForms(Check.taken("block;goto 2;block;neg 1;ret 0;block;num 7;goto 1;", 2), NAME, 7);
        dueForms(Check.taken("block;num 7;neg 0;ret 0;", 2), 7, -7);
        dueForms(Check.taken("block;goto 2;block;add 2 3;add 3 4;ret 0;block;num 0;num 99;num 0;goto 1;", 5), NAME, NAME + 1, 0, VOID, 0);
        // the form of an operand is as it is by now, also when an earlier name is looked at once more
        dueForms(Check.taken("block;arg 0;goto 2;block;less 2 2;ret 1;block;num 7;less 2 0;less 2 2;goto 1;", 5),
            NAME, NAME + 1, 7, NAME + 3, 0);
    }

    private static void nums() {
        Check.sentence("Terms", "num: its NUMBER.");
        dueForms(Check.taken("block;num 0;num 1;num 97;num 98;num 99;ret 0;", 5), 0, 1, 97, 98, VOID);
    }

    private static void negs() {
        Check.sentence("Terms", "neg: of a NUMBER what it brings; of a NAME that is a neg: the FORM of the OPERAND of that one, as it is then.");
        dueForms(Check.taken("block;num 0;neg 0;num 98;neg 2;neg 3;num 99;neg 5;ret 0;", 7), 0, 0, 98, -98, 98, VOID, VOID);
        ValueNumberer x = Check.taken(GREAT + "neg 5;neg 8;neg 7;ret 0;", 12);
        dueForm(x, 5, MIN);
        dueForm(x, 8, MAX);
        dueForm(x, 9, MIN);
        dueForm(x, 10, -MAX);
        dueForm(x, 11, 1);
        // one, two, three negs of a NAME that is none
        dueForms(Check.taken("block;arg 0;neg 0;neg 1;neg 2;neg 3;ret 0;", 5), NAME, NAME + 1, NAME, NAME + 1, NAME);
        // by the form of its operand it is a neg, though the operand is none
        dueForms(Check.taken("block;arg 0;neg 0;num 0;add 1 2;neg 3;ret 0;", 5), NAME, NAME + 1, 0, NAME + 1, NAME);
        // as it is then: a neg told later, whose operand is told later still
        dueForms(Check.taken("block;goto 2;block;neg 2;ret 0;block;num 7;neg 1;goto 1;", 3), NAME + 1, 7, -7);
    }

    private static void twoNumbers() {
        Check.sentence("Terms", "add, mul, less, div: of two NUMBERS what they bring;");
        dueOp("add 3 5", 0);
        dueOp("add 4 4", 4);
        dueOp("mul 2 4", 0);
        dueOp("mul 4 5", -2);
        dueOp("less 3 4", 1);
        dueOp("less 4 4", 0);
        dueOp("less 4 3", 0);
        dueOp("div 3 4", 0);
        dueOp("div 5 4", 0);
        dueOp("div 4 5", -2);
        dueOp("div 4 2", VOID);
        dueOp("div 2 2", VOID);
        dueOp("div 2 3", 0);
        String[] ops = {"add 8 6", "add 5 7", "add 8 2", "add 5 5", "mul 5 7", "mul 8 8", "div 5 7", "div 8 7", "less 5 8", "less 8 5"};
        long[] want = {MIN, MAX, -2147483648L + 1048576 - 1, 0, MIN, 1, MIN, -MAX, 1, 0};
        for (int i = 0; i < ops.length; i++) dueForm(Check.taken(GREAT + ops[i] + ";ret 0;", 10), 9, want[i]);
    }

    private static void zeroAndOne() {
        Check.sentence("Terms", "add with the NUMBER 0, mul, and div, if it is the second, with the NUMBER 1: the FORM of the other OPERAND;");
        String[] isOther = {"add 0 2", "add 2 0", "mul 0 3", "mul 3 0", "div 0 3"};
        for (String op : isOther) dueOp(op, NAME);
        String[] isItself = {"add 0 3", "add 0 5", "add 3 0", "mul 0 2", "mul 2 0", "mul 0 4", "mul 4 0", "mul 0 5", "div 0 4", "div 0 2",
            "div 0 5", "div 3 0", "div 2 0", "less 0 2", "less 0 3", "less 2 0", "less 3 0", "less 0 0", "div 0 0", "add 0 1", "mul 0 1"};
        for (String op : isItself) dueOp(op, NAME + 7);
        // the FORM of the other, not the other itself
        dueForm(Check.taken("block;arg 0;arg 0;num 0;add 1 2;ret 0;", 4), 3, NAME);
        dueForm(Check.taken("block;arg 0;neg 0;neg 1;num 1;mul 3 2;div 2 3;ret 0;", 6), 4, NAME);
        // by the FORM it is the NUMBER 0 or 1, though it is told as another
        dueForm(Check.taken("block;arg 0;num 1;neg 1;add 1 2;add 0 3;ret 0;", 5), 4, NAME);
        dueForm(Check.taken("block;arg 0;num 2;div 1 1;mul 0 2;ret 0;", 4), 3, NAME);
    }

    private static void voids() {
        Check.sentence("Terms", "with a VOID one: VOID (of less: 0).");
        for (String op : new String[] {"add", "mul", "div", "less"}) {
            long want = op.equals("less") ? 0 : VOID;
            for (int other = 0; other <= 6; other++) {
                dueOp(op + " 6 " + other, want);
                dueOp(op + " " + other + " 6", want);
            }
        }
        dueForms(Check.taken("block;num 98;arg 0;add 0 1;less 0 1;ret 0;", 4), 98, NAME + 1, NAME + 2, NAME + 3);
        // VOID by what it brings, too
        dueForms(Check.taken("block;num 1;num 0;div 0 1;arg 0;add 2 3;less 3 2;neg 2;ret 0;", 7), 1, 0, VOID, NAME + 3, VOID, 0, VOID);
    }

    private static void phis() {
        Check.sentence("Terms", "phi: is no OPERAND itself or behind it, and do all have one FORM: that.");
        String ways = "block;arg 0;num 3;if 0 1 2;block;arg 0;num 3;num 99;goto 3;block;arg 0;num 3;num 99;goto 3;block;";
        dueForm(Check.taken(ways + "phi 2 5;ret 0;", 9), 8, NAME);
        dueForm(Check.taken(ways + "phi 3 6;ret 0;", 9), 8, 3);
        dueForm(Check.taken(ways + "phi 4 7;ret 0;", 9), 8, VOID);
        dueForm(Check.taken(ways + "phi 2 6;ret 0;", 9), 8, NAME + 8);
        dueForm(Check.taken(ways + "phi 3 7;ret 0;", 9), 8, NAME + 8);
        // of one PRED
        dueForm(Check.taken("block;arg 0;neg 0;goto 1;block;phi 1;ret 0;", 3), 2, NAME + 1);
        // just ahead of it, itself, just behind it
        String loop = "block;arg 0;goto 1;block;phi 0 0;phi 0 ";
        dueForm(Check.taken(loop + "1;phi 0 0;goto 1;", 4), 2, NAME);
        dueForm(Check.taken(loop + "2;phi 0 0;goto 1;", 4), 2, NAME + 2);
        dueForm(Check.taken(loop + "3;phi 0 0;goto 1;", 4), 2, NAME + 2);
        // the first PRED is the one behind; and all OPERANDS are one NAME that is behind
        dueForm(Check.taken("block;arg 0;goto 2;block;goto 2;block;phi 0 1;goto 1;", 2), 1, NAME + 1);
        dueForm(Check.taken("block;arg 0;goto 3;block;num 7;goto 2;block;phi 3 0;phi 0 0;goto 1;block;goto 2;", 4), 2, NAME + 2);
        dueForm(Check.taken("block;goto 2;block;phi 1 1;goto 1;block;num 7;goto 1;", 2), 0, NAME);
        dueForm(Check.taken("block;goto 2;block;phi 1;ret 0;block;arg 0;goto 1;", 2), 0, NAME);
        dueForm(Check.taken("block;num 7;goto 2;block;ret 1;block;phi 0;goto 1;", 2), 1, 7);
        // of six, the last another
        String six = ";if 0 1 2;block;if 0 1 3;block;if 0 1 4;block;if 0 1 5;block;goto 1;";
        dueForm(Check.taken("block;num 7;num 7;num 8;goto 1;block;phi 0 1 0 1 0 1" + six, 4), 3, 7);
        dueForm(Check.taken("block;num 7;num 7;num 8;goto 1;block;phi 0 1 0 1 0 2" + six, 4), 3, NAME + 3);
        dueForm(Check.taken("block;num 7;num 7;num 8;goto 1;block;phi 2 1 0 1 0 1" + six, 4), 3, NAME + 3);
    }

    private static void same() {
        Check.sentence("Terms", "Else the first NAME of its KIND ahead of it whose FORM is itself, with FORMS of OPERANDS the same one by one "
            + "(of add, mul: or crosswise);");
        for (String op : new String[] {"add", "mul", "less", "div"}) {
            boolean mayCross = op.equals("add") || op.equals("mul");
            String two = "block;arg 0;arg 1;" + op + " 0 1;" + op;
            dueForm(Check.taken(two + " 0 1;ret 0;", 4), 3, NAME + 2);
            dueForm(Check.taken(two + " 1 0;ret 0;", 4), 3, mayCross ? NAME + 2 : NAME + 3);
            dueForm(Check.taken(two + " 0 0;ret 0;", 4), 3, NAME + 3);
            dueForm(Check.taken(two + " 1 1;ret 0;", 4), 3, NAME + 3);
        }
        dueForms(Check.taken("block;arg 0;arg 1;add 0 0;add 0 1;ret 0;", 4), NAME, NAME + 1, NAME + 2, NAME + 3);
        dueForms(Check.taken("block;arg 0;arg 1;add 0 1;mul 0 1;less 0 1;div 0 1;ret 0;", 6),
            NAME, NAME + 1, NAME + 2, NAME + 3, NAME + 4, NAME + 5);
        // the first of three, and one whose FORM is not itself is none
        dueForms(Check.taken("block;arg 0;less 0 0;less 0 0;less 0 0;ret 0;", 4), NAME, NAME + 1, NAME + 1, NAME + 1);
        dueForms(Check.taken("block;arg 0;num 0;add 0 1;add 2 0;add 0 2;ret 0;", 5), NAME, 0, NAME, NAME + 3, NAME + 3);
        // by FORMS: numbers, and names that are others
        dueForms(Check.taken("block;arg 0;arg 0;num 2;num 2;add 0 2;add 3 1;ret 0;", 6), NAME, NAME, 2, 2, NAME + 4, NAME + 4);
        // it need not be seen
        dueForms(Check.taken("block;arg 0;if 0 1 2;block;neg 0;ret 1;block;neg 0;ret 2;", 3), NAME, NAME + 1, NAME + 1);
    }

    private static void sameArgs() {
        Check.sentence("Terms", "of arg: with one ARGUMENT;");
        dueForms(Check.taken("block;arg 3;arg 2;arg 3;arg 0;arg 1;arg 0;ret 0;", 6), NAME, NAME + 1, NAME, NAME + 3, NAME + 4, NAME + 3);
    }

    private static void samePhis() {
        Check.sentence("Terms", "of phi: in its BLOCK, too, and no OPERAND of either itself or behind it;");
        String ways = "block;arg 0;num 3;if 0 1 2;block;goto 3;block;goto 3;block;phi 0 1;phi ";
        dueForm(Check.taken(ways + "0 1;ret 0;", 4), 3, NAME + 2);
        dueForm(Check.taken(ways + "1 0;ret 0;", 4), 3, NAME + 3);
        // in another block with the same operands
        ValueNumberer x = Check.taken("block;arg 0;num 3;if 0 1 2;block;goto 3;block;goto 3;block;phi 0 1;if 0 4 5;block;goto 5;"
            + "block;phi 0 1;phi 0 1;ret 0;", 5);
        dueForms(x, NAME, 3, NAME + 2, NAME + 3, NAME + 3);
        // 2 and 3 by the same forms, where one has an operand that is itself or behind
        String loop = "block;arg 0;num 3;goto 1;block;phi 0 ";
        dueForms(Check.taken(loop + "1;phi 0 1;goto 1;", 4), NAME, 3, NAME + 2, NAME + 2);
        dueForms(Check.taken(loop + "3;phi 0 3;goto 1;", 4), NAME, 3, NAME + 2, NAME + 3);
        dueForms(Check.taken(loop + "4;phi 0 4;add 0 1;goto 1;", 5), NAME, 3, NAME + 2, NAME + 3, NAME + 4);
        dueForms(Check.taken(loop + "3;neg 0;neg 0;goto 1;", 5), NAME, 3, NAME + 2, NAME + 3, NAME + 3);
        // the one that is behind comes by the first PRED
        dueForms(Check.taken("block;arg 0;goto 3;block;num 7;goto 2;block;phi 3 0;phi 3 0;phi 1 0;phi 1 0;goto 1;block;goto 2;", 6),
            NAME, 7, NAME + 2, NAME + 3, NAME + 4, NAME + 4);
        // one OPERAND, told in a BLOCK that dominates, but behind both
        dueForms(Check.taken("block;goto 2;block;phi 2;phi 2;ret 1;block;arg 0;goto 1;", 3), NAME, NAME + 1, NAME + 2);
    }

    private static void themselves() {
        Check.sentence("Terms", "else, and if it is gone, it itself.");
        ValueNumberer x = Check.taken("block;arg 0;num 4;arg 0;neg 2;neg 3;ret 3;", 5);
        dueForms(x, NAME, 4, NAME, NAME + 3, NAME);
        Check.due("sweep()", x.sweep(), 3);
        dueForms(x, NAME, NAME + 1, NAME + 2, NAME + 3, NAME + 4);
        dueForms(Check.taken("block;arg 0;neg 0;less 0 1;ret 0;", 3), NAME, NAME + 1, NAME + 2);
    }

    // ---- Promises 19 and 20

    private static void formAnswers() {
        Check.sentence("Promise 19", "FORM of a NAME: the NAME (NONE: it is a NUMBER).");
        ValueNumberer x = Check.taken("block;arg 0;num 0;num 98;num 99;neg 0;neg 4;ret 0;", 6);
        int[] want = {0, -4, -4, -4, 4, 0};
        for (int n = 0; n < 6; n++) Check.due("form(" + n + ")", x.form(n), want[n]);
        ValueNumberer y = Check.taken("block;" + "arg1;".repeat(20) + "ret0;", 20);
        for (int n = 0; n < 20; n++) Check.due("form(" + n + ")", y.form(n), 0);
        ValueNumberer z = Check.taken("block;" + "num1;".repeat(19) + "arg0;ret0;", 20);
        Check.due("form(18)", z.form(18), -4);
        Check.due("form(19)", z.form(19), 19);
    }

    private static void badForms() {
        Check.sentence("Promise 19", "BAD.");
        ValueNumberer x = Check.taken("block;arg 0;arg 1;ret 0;", 2);
        Check.due("form(-1)", x.form(-1), -1);
        Check.due("form(0)", x.form(0), 0);
        Check.due("form(1)", x.form(1), 1);
        Check.due("form(2)", x.form(2), -1);
        Check.due("form(MIN)", x.form(Integer.MIN_VALUE), -1);
        Check.due("form(MAX)", x.form(Integer.MAX_VALUE), -1);
        Check.due("form(0) of none", new ValueNumberer().form(0), -1);
        Check.due("form(20)", Check.taken("block;" + "arg1;".repeat(20) + "ret0;", 20).form(20), -1);
    }

    private static void numberAnswers() {
        Check.sentence("Promise 20", "FORM of a NAME: the NUMBER (VOID; NOTHING: it is a NAME).");
        ValueNumberer x = Check.taken("block;arg 0;num 0;num 98;num 99;neg 0;neg 2;ret 0;", 6);
        long[] want = {NOTHING, 0, 98, VOID, NOTHING, -98};
        for (int n = 0; n < 6; n++) Check.due("number(" + n + ")", x.number(n), want[n]);
        ValueNumberer y = Check.taken(GREAT + "ret 0;", 9);
        Check.due("the smallest", y.number(5), MIN);
        Check.due("-1, which is no BAD", y.number(7), -1);
        Check.due("the greatest", y.number(8), MAX);
        Check.due("alter", y.alter(6, 99), 1);
        Check.due("VOID then", y.number(7), VOID);
    }

    private static void badNumbers() {
        Check.sentence("Promise 20", "BAD.");
        ValueNumberer x = Check.taken("block;num 7;num 8;ret 0;", 2);
        Check.due("number(-1)", x.number(-1), -1);
        Check.due("number(0)", x.number(0), 7);
        Check.due("number(1)", x.number(1), 8);
        Check.due("number(2)", x.number(2), -1);
        Check.due("number(MIN)", x.number(Integer.MIN_VALUE), -1);
        Check.due("number(MAX)", x.number(Integer.MAX_VALUE), -1);
        Check.due("number(0) of none", new ValueNumberer().number(0), -1);
        Check.due("number(20)", Check.taken("block;" + "num1;".repeat(20) + "ret0;", 20).number(20), -1);
    }
}
