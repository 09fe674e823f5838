/** Promises 19 and 20: form, number. */
public final class FormsTest {
    private static final long VOID = 1000000000000L, NOTHING = 2000000000000L;
    private static final long NAME = 3000000000000L;

    public static void main(String[] args) {
        numbersAndArguments();
        ofTwoNumbers();
        withZeroAndOne();
        withVoid();
        negs();
        sameForms();
        phisOfOneForm();
        samePhis();
        phisBehind();
        behindAtTheFirstPred();
        notAhead();
        goneNames();
        wrongNumbers();
        Check.finish();
    }

    /** Of each name the number, or the name with NAME added. */
    private static void dueForms(ValueNumberer x, long... want) {
        Check.due("names", x.rule(1), want.length);
        for (int n = 0; n < want.length; n++) {
            boolean isName = want[n] >= NAME;
            Check.due("form " + n, x.form(n), isName ? want[n] - NAME : -4);
            Check.due("number " + n, x.number(n), isName ? NOTHING : want[n]);
        }
    }

    private static void numbersAndArguments() {
        dueForms(Check.taken("block;num 0;num 98;num 99;num 0;arg 0;arg 1;arg 0;arg 3;ret 0;", 8),
            0, 98, VOID, 0, NAME + 4, NAME + 5, NAME + 4, NAME + 7);
    }

    private static void ofTwoNumbers() {
        dueForms(Check.taken("block;num 7;num 2;add 0 1;mul 0 1;neg 0;less 0 1;less 1 0;div 0 1;div 4 1;neg 4;less 0 0;ret 0;", 11),
            7, 2, 9, 14, -7, 0, 1, 3, -3, 7, 0);
        // 98 to the 8th power, beyond 32 bits
        int p2 = 98 * 98;
        int p4 = p2 * p2;
        int p8 = p4 * p4;
        dueForms(Check.taken("block;num 98;mul 0 0;mul 1 1;mul 2 2;add 3 3;neg 3;ret 0;", 6), 98, p2, p4, p8, p8 + p8, -p8);
        // the smallest number by -1
        dueForms(Check.taken("block;num 32;mul 0 0;mul 1 1;mul 2 0;num 64;mul 3 4;num 1;neg 6;div 5 7;neg 5;ret 0;", 10),
            32, 1024, 1 << 20, 1 << 25, 64, Integer.MIN_VALUE, 1, -1, Integer.MIN_VALUE, Integer.MIN_VALUE);
    }

    private static void withZeroAndOne() {
        dueForms(Check.taken("block;arg 0;num 0;num 1;add 0 1;add 1 0;mul 0 2;mul 2 0;div 0 2;div 2 0;ret 0;", 9),
            NAME, 0, 1, NAME, NAME, NAME, NAME, NAME, NAME + 8);
        // none of these is a rule, since the argument may be void
        dueForms(Check.taken("block;arg 0;num 0;num 1;mul 0 1;mul 1 0;div 1 0;div 0 1;add 0 2;less 0 0;less 0 1;div 0 0;less 0 2;ret 0;", 12),
            NAME, 0, 1, NAME + 3, NAME + 3, NAME + 5, NAME + 6, NAME + 7, NAME + 8, NAME + 9, NAME + 10, NAME + 11);
    }

    private static void withVoid() {
        dueForms(Check.taken("block;num 99;arg 0;add 0 1;add 1 0;mul 0 1;mul 1 0;div 0 1;div 1 0;less 0 1;less 1 0;neg 0;ret 0;", 11),
            VOID, NAME + 1, VOID, VOID, VOID, VOID, VOID, VOID, 0, 0, VOID);
        dueForms(Check.taken("block;num 99;num 1;num 0;add 0 2;mul 1 0;div 0 1;less 0 1;less 1 0;less 0 0;div 1 2;div 2 2;add 0 0;ret 0;", 12),
            VOID, 1, 0, VOID, VOID, VOID, 0, 0, 0, VOID, VOID, VOID);
    }

    private static void negs() {
        dueForms(Check.taken("block;arg 0;neg 0;neg 1;neg 2;neg 3;num 0;add 1 5;neg 6;neg 0;add 0 0;neg 9;neg 9;ret 0;", 12),
            NAME, NAME + 1, NAME, NAME + 1, NAME, 0, NAME + 1, NAME, NAME + 1, NAME + 9, NAME + 10, NAME + 10);
    }

    private static void sameForms() {
        dueForms(Check.taken("block;arg 0;arg 1;add 0 1;add 1 0;mul 0 1;mul 1 0;less 0 1;less 1 0;div 0 1;div 1 0;div 0 1;less 1 0;ret 0;", 12),
            NAME, NAME + 1, NAME + 2, NAME + 2, NAME + 4, NAME + 4, NAME + 6, NAME + 7, NAME + 8, NAME + 9, NAME + 8, NAME + 7);
        // by forms of operands, numbers too
        dueForms(Check.taken("block;arg 0;arg 0;num 2;num 2;add 0 2;add 3 1;num 1;add 6 6;mul 7 0;mul 0 3;ret 0;", 10),
            NAME, NAME, 2, 2, NAME + 4, NAME + 4, 1, 2, NAME + 8, NAME + 8);
        // on other ways, too: a form is not asked to be seen
        dueForms(Check.taken("block;arg 0;if 0 1 2;block;neg 0;ret 1;block;neg 0;ret 2;", 3), NAME, NAME + 1, NAME + 1);
        // of add and mul both must be found, each once
        dueForms(Check.taken("block;arg 0;arg 1;add 0 0;add 0 1;add 1 1;add 1 0;ret 0;", 6),
            NAME, NAME + 1, NAME + 2, NAME + 3, NAME + 4, NAME + 3);
    }

    private static void phisOfOneForm() {
        dueForms(Check.taken("block;arg 0;num 3;if 0 1 2;block;arg 0;num 3;num 99;goto 3;block;arg 0;num 3;num 99;goto 3;"
            + "block;phi 2 5;phi 3 6;phi 4 7;phi 2 6;ret 8;", 12),
            NAME, 3, NAME, 3, VOID, NAME, 3, VOID, NAME, 3, VOID, NAME + 11);
    }

    private static void samePhis() {
        dueForms(Check.taken("block;arg 0;num 3;if 0 1 2;block;goto 3;block;goto 3;block;phi 0 1;phi 1 0;phi 0 1;phi 1 0;"
            + "if 0 4 5;block;goto 5;block;phi 0 1;phi 0 1;ret 2;", 8),
            NAME, 3, NAME + 2, NAME + 3, NAME + 2, NAME + 3, NAME + 6, NAME + 6);
    }

    private static void phisBehind() {
        // a phi in a loop is itself, though its operands look alike
        dueForms(Check.taken("block;arg 0;num 0;goto 1;block;phi 0 3;phi 0 3;phi 0 5;phi 0 5;add 2 1;if 0 1 2;block;ret 2;", 7),
            NAME, 0, NAME + 2, NAME + 3, NAME + 4, NAME + 5, NAME + 2);
        dueForms(Check.taken("block;arg 0;goto 1;block;phi 0 1;phi 0 0;phi 0 0;if 0 1 2;block;ret 2;", 4), NAME, NAME + 1, NAME, NAME);
    }

    private static void behindAtTheFirstPred() {
        // the loop comes by the first pred, block 1
        ValueNumberer x = Check.taken("block;arg 0;goto 3;block;num 7;goto 2;block;phi 3 0;phi 3 0;phi 0 0;if 0 1 4;"
            + "block;goto 2;block;ret 2;", 5);
        Check.due("number asked first of all", x.number(0), NOTHING);
        dueForms(x, NAME, 7, NAME + 2, NAME + 3, NAME);
    }

    private static void notAhead() {
        // names of block 2 are not ahead, but are seen in block 1: each of their forms is itself as yet
        dueForms(Check.taken("block;arg 0;goto 2;block;neg 4;add 5 6;num 0;ret 1;block;neg 0;num 0;num 7;goto 1;", 7),
            NAME, NAME, NAME + 2, 0, NAME + 4, 0, 7);
        // neg of a neg that is not ahead: the form of its operand, as it is then
        dueForms(Check.taken("block;arg 0;goto 2;block;neg 2;ret 1;block;neg 0;goto 1;", 3), NAME, NAME, NAME + 2);
        dueForms(Check.taken("block;arg 0;goto 2;block;neg 3;neg 4;ret 1;block;neg 0;neg 3;num 7;add 4 0;goto 1;", 7),
            NAME, NAME, NAME + 3, NAME + 3, NAME, 7, NAME + 6);
        // an operand of an earlier one has its form by now
        dueForms(Check.taken("block;arg 0;goto 2;block;less 2 2;ret 1;block;num 7;less 2 0;less 2 2;goto 1;", 5),
            NAME, NAME + 1, 7, NAME + 3, 0);
    }

    private static void goneNames() {
        ValueNumberer x = Check.taken("block;arg 0;num 4;arg 0;neg 2;ret 3;", 4);
        dueForms(x, NAME, 4, NAME, NAME + 3);
        Check.due("sweep()", x.sweep(), 2);
        dueForms(x, NAME, NAME + 1, NAME + 2, NAME + 3);
    }

    private static void wrongNumbers() {
        ValueNumberer x = Check.taken("block;num 1;ret 0;", 1);
        int[] wild = {Integer.MIN_VALUE, -1, 1, 20, Integer.MAX_VALUE};
        for (int w : wild) {
            Check.due("form " + w, x.form(w), -1);
            Check.due("number " + w, x.number(w), -1);
        }
    }
}
