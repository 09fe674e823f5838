/** Boundaries of the tape, its tokens, the text and its faults ("Terms"), and of promises 1 to 5. */
final class EdgesOfText {
    private static final String SIX = "block;goto1;block;goto2;block;goto3;block;goto4;block;goto5;block;";
    private static final String ONE = "block;num 1;ret 0;";
    // other kinds and ends than in the text ahead of it
    private static final String THOSE = "block;arg 1;neg 0;num 3;goto 1;block;num 4;goto 2;block;ret 0;";

    private EdgesOfText() {
    }

    static void all() {
        length();
        blanks();
        signs();
        words();
        howManyBlocks();
        whatBlockHas();
        phiOperands();
        opOperands();
        endOperands();
        boundsOfNames();
        boundsOfGoto();
        boundsOfIf();
        boundsOfRet();
        firstFault();
        noToken();
        misplaced();
        outOfBounds();
        tooMany();
        behindAll();
        toldBlocks();
        waysToBlocks();
        toldNames();
        countedPhis();
        seenOperands();
        seenPhiOperands();
        seenAtEnds();
        takenText();
        taken();
        newObject();
        newSheets();
        bytes();
        fullTape();
        keptBytes();
        badEnd();
        toldNamesOrPlace();
        latestFault();
    }

    private static ValueNumberer fed(String text) {
        ValueNumberer x = new ValueNumberer();
        Check.feedAll(x, text);
        return x;
    }

    private static String blanks(int n) {
        return " ".repeat(n);
    }

    // ---- Terms: the tape and its tokens

    private static void length() {
        Check.sentence("Terms", "THE TAPE has 320 bytes, places from 0.");
        ValueNumberer x = fed(blanks(318));
        Check.due("byte 319", x.feed('a'), 319);
        Check.due("byte 320", x.feed('b'), 320);
        Check.due("byte 321", x.feed('c'), -3);
        Check.due("how many it has", x.count(1), 320);
        for (int place : new int[] {0, 1, 318, 319}) Check.refused(blanks(place) + "?" + blanks(319 - place), 1, place);
        Check.taken("block;num 1;ret 0" + blanks(301) + ";", 1);
        Check.taken("block;num 1;ret 0" + blanks(302) + ";", 1);
        Check.refused("block;num 1;ret 0" + blanks(303), 2, 320);
        // a TOKEN in each byte
        for (int n : new int[] {1, 319, 320}) Check.refused(";".repeat(n), 2, 0);
        for (int n : new int[] {1, 301, 302}) Check.refused(ONE + ";".repeat(n), 2, 18);
        Check.refused("block;num 1;goto 1;block;phi" + " 0".repeat(145) + ";;", 2, 319);
    }

    private static void blanks() {
        Check.sentence("Terms", "TOKENS, each as long as may be, any number of blanks (32) ahead of, between, behind them "
            + "(none is needed, but between two NUMBERS side by side):");
        Check.taken("block;num7;ret0;", 1);
        Check.taken(" block ; num 7 ; ret 0 ; ", 1);
        Check.taken("  block  ;  num  7  ;  ret  0  ;  ", 1);
        Check.taken(blanks(38) + "block" + blanks(38) + ";" + blanks(38) + "num" + blanks(38) + "7" + blanks(38) + ";ret"
            + blanks(38) + "0" + blanks(38) + ";" + blanks(38), 1);
        for (char c : new char[] {31, 33, 0, 9, 10, 127}) Check.refused("block;" + c + "num 7;ret 0;", 1, 6);
        Check.refused("block;add 01;", 2, 12);
        Check.taken("block;num 1;num 2;add 0 1;ret 2;", 3);
        Check.taken("block;num 1;num 2;add 0  1;ret 2;", 3);
        Check.due("two figures side by side are one NUMBER", Check.taken("block;num 12;ret 0;", 1).name(0, 3), 12);
        Check.refused("block;num 1 2;", 2, 12);
        Check.refused("bl ock;", 2, 0);
        Check.refused("blockblock;", 2, 0);
        Check.refused("block;num 7;retret 0;", 2, 12);
        Check.refused("block;num 1;if 0 1 1;block;phi0 ;ret 01 ;;", 2, 41);
    }

    private static void signs() {
        Check.sentence("Terms", "WORDS (a .. z), NUMBERS (1 or 2 figures), one ; .");
        Check.refused("" + (char) ('a' - 1), 1, 0);
        Check.refused("a", 2, 0);
        Check.refused("z", 2, 0);
        Check.refused("" + (char) ('z' + 1), 1, 0);
        Check.refused("A", 1, 0);
        Check.refused("Z", 1, 0);
        Check.refused("" + (char) ('0' - 1), 1, 0);
        Check.refused("0", 2, 0);
        Check.refused("9", 2, 0);
        Check.refused("" + (char) ('9' + 1), 1, 0);
        Check.refused("" + (char) (';' - 1), 1, 0);
        Check.refused(";", 2, 0);
        Check.refused("" + (char) (';' + 1), 1, 0);
        Check.refused("block" + (char) ('z' + 1) + ";", 1, 5);
        Check.refused("block" + (char) ('a' - 1) + ";", 1, 5);
        Check.refused("block;num 1" + (char) ('0' - 1) + ";", 1, 11);
        Check.refused("block;num 1" + (char) ('9' + 1) + ";", 1, 11);
        Check.taken("block;num 7;ret 0;", 1);
        Check.taken("block;num 07;ret 00;", 1);
        Check.refused("block;num 007;ret 0;", 1, 10);
        Check.refused("block;;num 7;ret 0;", 2, 6);
    }

    private static void words() {
        Check.sentence("Terms", "WORDS (a .. z)");
        // one letter other, one more, one less
        String[] words = {"num", "arg", "add", "mul", "neg", "less", "div", "phi", "goto", "if", "ret"};
        for (String word : words) {
            for (int i = 0; i < word.length(); i++) {
                char other = word.charAt(i) == 'z' ? 'a' : (char) (word.charAt(i) + 1);
                Check.refused("block;" + word.substring(0, i) + other + word.substring(i + 1) + " 1;", 2, 6);
                Check.refused("block;" + word.substring(0, i) + word.substring(i + 1) + " 1;", 2, 6);
            }
            Check.refused("block;" + word + "s 1;", 2, 6);
            Check.refused("block;s" + word + " 1;", 2, 6);
        }
        for (String word : new String[] {"clock", "bloc", "blocks", "lock", "blocc", "block" + "a".repeat(300)}) {
            Check.refused(word + ";num 1;ret 0;", 2, 0);
        }
    }

    // ---- Terms: the text

    private static void howManyBlocks() {
        Check.sentence("Terms", "text: { block }");
        ValueNumberer x = Check.taken("", 0);
        Check.due("no BLOCK", x.rule(0), 0);
        Check.due("blanks alone, no BLOCK", Check.taken(blanks(320), 0).rule(0), 0);
        Check.due("one BLOCK", Check.taken(ONE, 1).rule(0), 1);
        Check.due("two BLOCKS", Check.taken("block;goto 1;block;goto 1;", 0).rule(0), 2);
        Check.refused("num 1;", 2, 0);
        Check.refused(ONE + "ret 0;", 2, 18);
    }

    private static void whatBlockHas() {
        Check.sentence("Terms", "block: block ; { phi } { op } end");
        Check.taken("block;goto 1;block;goto 1;", 0);
        Check.taken("block;num 1;goto 1;block;phi 0;goto 2;block;ret 1;", 2);
        Check.taken("block;num 1;goto 1;block;phi 0;phi 0;neg 1;neg 2;ret 1;", 5);
        Check.refused("block num 1;ret 0;", 2, 6);
        Check.refused("block;num 1;goto 1;block;neg 0;phi 0;ret 1;", 2, 31);
        Check.refused("block;num 1;goto 1;block;phi 0;neg 0;phi 0;ret 1;", 2, 37);
        Check.refused("block;", 2, 6);
        Check.refused("block;num 1;", 2, 12);
        Check.refused("block;num 1;block;", 2, 12);
        Check.refused("block;num 1;ret 0;num 1;", 2, 18);
        Check.refused("block;num 1;ret 0;phi 0;", 2, 18);
    }

    private static void phiOperands() {
        Check.sentence("Terms", "phi: phi N { N } ;");
        Check.refused("block;num 1;goto 1;block;phi;ret 0;", 2, 28);
        Check.taken("block;num 1;goto 1;block;phi 0;ret 0;", 2);
        Check.taken("block;num 1;goto 1;block;phi 0 0;goto 1;", 2);
        Check.refused("block;num 1;goto 1;block;phi 0 0 goto 1;", 2, 33);
        Check.refused("block;num 1;goto 1;block;phi 0", 2, 30);
    }

    private static void opOperands() {
        Check.sentence("Terms", "op: num N ; | arg N ; | add N N ; | mul N N ; | neg N ; | less N N ; | div N N ;");
        for (String word : new String[] {"num", "arg", "neg"}) {
            Check.refused("block;num 1;" + word + ";ret 0;", 2, 15);
            Check.taken("block;num 1;" + word + " 0;ret 0;", 2);
            Check.refused("block;num 1;" + word + " 0 0;ret 0;", 2, 18);
        }
        for (String word : new String[] {"add", "mul", "div", "less"}) {
            int at = 12 + word.length();
            Check.refused("block;num 1;" + word + ";ret 0;", 2, at);
            Check.refused("block;num 1;" + word + " 0;ret 0;", 2, at + 2);
            Check.taken("block;num 1;" + word + " 0 0;ret 0;", 2);
            Check.refused("block;num 1;" + word + " 0 0 0;ret 0;", 2, at + 5);
        }
        Check.refused("block;num 1;num 0", 2, 17);
        Check.refused("block;num 1;num 0 ret 0;", 2, 18);
    }

    private static void endOperands() {
        Check.sentence("Terms", "end: goto N ; | if N N N ; | ret N ;");
        Check.refused("block;num 1;goto;", 2, 16);
        Check.taken("block;num 1;goto 1;block;ret 0;", 1);
        Check.refused("block;num 1;goto 1 1;", 2, 19);
        Check.refused("block;num 1;if;", 2, 14);
        Check.refused("block;num 1;if 0;", 2, 16);
        Check.refused("block;num 1;if 0 1;", 2, 18);
        Check.taken("block;num 1;if 0 1 1;block;ret 0;", 1);
        Check.refused("block;num 1;if 0 1 1 1;", 2, 21);
        Check.refused("block;num 1;ret;", 2, 15);
        Check.taken("block;num 1;ret 0;", 1);
        Check.refused("block;num 1;ret 0 0;", 2, 18);
        Check.refused("block;num 1;ret 0", 2, 17);
        Check.refused("block;num 1;goto 1", 2, 18);
        Check.refused("block;num 1;if 0 1 1", 2, 20);
    }

    /** Name 0 is the op, and names 1 to 19 are told behind it, but in a block that dominates its own. */
    private static String withTwenty(String op) {
        return "block;goto 2;block;" + op + ";ret 0;block;" + "num1;".repeat(19) + "goto 1;";
    }

    private static void boundsOfNames() {
        Check.sentence("Terms", "each phi, op tells the next NAME: its OPERANDS (0 to 19), of num the NUMBER (0 to 99), "
            + "of arg the ARGUMENT (0 to 3).");
        for (String op : new String[] {"neg ", "add 1 ", "mul 1 ", "less 1 ", "div 1 "}) {
            Check.taken(withTwenty(op + "18"), 20);
            Check.taken(withTwenty(op + "19"), 20);
            Check.refused(withTwenty(op + "20"), 3, 19 + op.length());
            Check.refused(withTwenty(op + "99"), 3, 19 + op.length());
        }
        for (String op : new String[] {"add", "mul", "less", "div"}) {
            Check.taken(withTwenty(op + " 19 1"), 20);
            Check.refused(withTwenty(op + " 20 1"), 3, 20 + op.length());
        }
        Check.taken("block;num 1;neg 0;ret 1;", 2);
        Check.taken("block;" + "num1;".repeat(19) + "goto1;block;phi 0 19;goto1;", 20);
        Check.refused("block;" + "num1;".repeat(19) + "goto1;block;phi 0 20;goto1;", 3, 119);
        Check.refused("block;" + "num1;".repeat(19) + "goto1;block;phi 20 0;goto1;", 3, 117);
        for (int v : new int[] {0, 1, 98, 99}) Check.due("NUMBER", Check.taken("block;num " + v + ";ret 0;", 1).name(0, 3), v);
        Check.refused("block;num 100;ret 0;", 1, 10);
        for (int v : new int[] {0, 1, 2, 3}) Check.due("ARGUMENT", Check.taken("block;arg " + v + ";ret 0;", 1).name(0, 3), v);
        Check.refused("block;arg 4;ret 0;", 3, 10);
        Check.refused("block;arg 99;ret 0;", 3, 10);
        Check.due("NAMES by order", Check.taken("block;arg 0;neg 0;num 5;ret 0;", 3).name(1, 0), 4);
    }

    private static void boundsOfGoto() {
        Check.sentence("Terms", "goto: the BLOCK (1 to 5).");
        Check.refused(SIX + "goto 0;", 3, 71);
        for (int b = 1; b <= 5; b++) Check.due("BLOCK", Check.taken(SIX + "goto " + b + ";", 0).block(5, 3), b);
        Check.refused(SIX + "goto 6;", 3, 71);
        Check.refused(SIX + "goto 99;", 3, 71);
    }

    private static void boundsOfIf() {
        Check.sentence("Terms", "if: the NAME (0 to 19), two BLOCKS (1 to 5).");
        String five = "goto2;block;goto3;block;goto4;block;goto5;block;";
        String names = "block;" + "num1;".repeat(20) + "goto1;block;";
        int at = names.length() + five.length();
        for (int n : new int[] {0, 18, 19}) Check.due("NAME", Check.taken(names + five + "if " + n + " 1 5;", 20).block(5, 5), n);
        Check.refused(names + five + "if 20 1 5;", 3, at + 3);
        for (int b = 1; b <= 5; b++) {
            Check.due("first BLOCK", Check.taken(names + five + "if 0 " + b + " 2;", 20).block(5, 3), b);
            Check.due("second BLOCK", Check.taken(names + five + "if 0 2 " + b + ";", 20).block(5, 4), b);
        }
        for (int b : new int[] {0, 6}) {
            Check.refused(names + five + "if 0 " + b + " 2;", 3, at + 5);
            Check.refused(names + five + "if 0 2 " + b + ";", 3, at + 7);
        }
    }

    private static void boundsOfRet() {
        Check.sentence("Terms", "ret: the NAME (0 to 19).");
        String names = "block;" + "num1;".repeat(20) + "ret ";
        for (int n : new int[] {0, 1, 18, 19}) Check.due("NAME", Check.taken(names + n + ";", 20).block(0, 5), n);
        Check.refused(names + "20;", 3, 110);
        Check.refused(names + "99;", 3, 110);
    }

    // ---- Terms: faults

    private static void firstFault() {
        Check.sentence("Terms", "FAULTS, the first met as it is read (a TOKEN is read when the one before has been taken):");
        Check.refused("num ?", 2, 0);
        Check.refused("block ?", 1, 6);
        Check.refused("block num ?", 2, 6);
        Check.refused("block;arg 4 ?", 3, 10);
        Check.refused("block;arg 3 ?", 1, 12);
        Check.refused("block;arg ? 4", 1, 10);
        Check.refused("block;ret 5;?", 1, 12);
        Check.refused("block;ret 5; ", 6, 13);
        Check.refused("block;num 1;goto 0 123", 3, 17);
        Check.refused("block;num 1;goto 1 123", 1, 19);
        Check.refused("block;" + "num1;".repeat(20) + "num?", 5, 106);
        Check.refused("block;" + "num1;".repeat(19) + "num?", 1, 104);
    }

    private static void noToken() {
        Check.sentence("Terms", "1 no TOKEN, a NUMBER that is too long (its first byte).");
        Check.refused("?", 1, 0);
        Check.refused(" ?", 1, 1);
        Check.refused("block;num 1;ret 0;  ?", 1, 20);
        Check.taken("block;num 99;ret 0;", 1);
        Check.refused("block;num 100;ret 0;", 1, 10);
        Check.refused("block;num 000;ret 0;", 1, 10);
        Check.refused("block;num  1234;ret 0;", 1, 11);
        Check.refused("block;num 1" + "0".repeat(309), 1, 10);
        Check.refused("123;", 1, 0);
        Check.refused("12;", 2, 0);
    }

    private static void misplaced() {
        Check.sentence("Terms", "2 a TOKEN that can not stand there (or the end: the length).");
        int[] places = {-1, 0, 0, 0, 0, 5, 6, 6, 6, 9, 10, 11, 12, 12, 12, 15, 16, 17, -1};
        for (int n = 0; n < places.length; n++) {
            if (places[n] < 0) Check.taken(ONE.substring(0, n), n == 0 ? 0 : 1);
            else Check.refused(ONE.substring(0, n), 2, places[n]);
        }
        Check.refused("block" + blanks(315), 2, 320);
        Check.refused("block" + blanks(314), 2, 319);
        Check.refused("block;;", 2, 6);
        Check.refused("block 7;", 2, 6);
        Check.refused("block;7;", 2, 6);
        Check.refused("block;num ;", 2, 10);
        Check.refused("block;num num;", 2, 10);
        Check.refused("block;num 1 num", 2, 12);
    }

    private static void outOfBounds() {
        Check.sentence("Terms", "3 a NUMBER out of its bounds.");
        Check.refused("block;arg 03;ret 1;", 6, 19);
        Check.refused("block;arg 04;ret 0;", 3, 10);
        Check.refused("block;num 1;goto 00;", 3, 17);
        Check.refused("block;num 1;goto 01;", 6, 20);
        Check.refused("block;num 1;goto 05;", 6, 20);
        Check.refused("block;num 1;goto 06;", 3, 17);
        Check.refused("block;num 1;ret 19;", 6, 19);
        Check.refused("block;num 1;ret 20;", 3, 16);
    }

    private static void tooMany() {
        Check.sentence("Terms", "5 the 7th block, the 21st NAME (the WORD by which it begins).");
        Check.taken(SIX.substring(0, 48) + "block;goto 4;", 0);
        Check.taken(SIX + "goto 5;", 0);
        Check.refused(SIX + "goto 5;block;goto 6;", 5, 73);
        Check.refused(SIX + "goto 5;  block", 5, 75);
        String nineteen = "block;" + "num1;".repeat(19);
        for (String op : new String[] {"num 1;", "arg 1;", "add 0 1;", "mul 0 1;", "neg 1;", "less 0 1;", "div 0 1;"}) {
            Check.taken(nineteen + "ret 0;", 19);
            Check.taken(nineteen + op + "ret 0;", 20);
            Check.refused(nineteen + "num1;" + op + "ret 0;", 5, 106);
            Check.refused(nineteen + "num1;  " + op + "ret 0;", 5, 108);
        }
        Check.taken(nineteen + "goto 1;block;phi 0;ret 0;", 20);
        Check.refused(nineteen + "num1;goto 1;block;phi 0;ret 0;", 5, 119);
        Check.refused(nineteen + "goto 1;block;phi 0;phi 0;ret 0;", 5, 120);
    }

    private static void behindAll() {
        Check.sentence("Terms", "Behind all (the length): 6 any of these:");
        Check.refused("block;ret 0;", 6, 12);
        Check.refused("block;ret 0; ", 6, 13);
        Check.refused("block;ret 0;" + blanks(307), 6, 319);
        Check.refused("block;ret 0;" + blanks(308), 6, 320);
        Check.refused("block;ret 0;" + blanks(307) + "?", 1, 319);
    }

    private static void toldBlocks() {
        Check.sentence("Terms", "a BLOCK is told that there is not;");
        Check.refused("block;goto 1;", 6, 13);
        Check.taken("block;goto 1;block;goto 1;", 0);
        Check.refused("block;goto 1;block;goto 2;", 6, 26);
        Check.refused("block;num 1;if 0 1 2;block;ret 0;", 6, 33);
        Check.refused("block;num 1;if 0 2 1;block;ret 0;", 6, 33);
        Check.taken("block;num 1;if 0 2 1;block;ret 0;block;ret 0;", 1);
        Check.refused("block;num 1;if 0 3 1;block;goto 2;block;ret 0;", 6, 46);
        Check.taken(SIX + "goto 5;", 0);
        Check.refused(SIX.substring(0, 48) + "block;goto 5;", 6, 61);
    }

    private static void waysToBlocks() {
        Check.sentence("Terms", "to a BLOCK no way leads from BLOCK 0;");
        Check.refused("block;num 1;ret 0;block;ret 0;", 6, 30);
        Check.taken("block;num 1;goto 1;block;ret 0;", 1);
        Check.refused("block;num 1;goto 2;block;ret 0;block;ret 0;", 6, 43);
        Check.taken("block;num 1;goto 2;block;ret 0;block;goto 1;", 1);
        Check.refused("block;num 1;ret 0;block;goto 2;block;goto 1;", 6, 44);
        Check.refused("block;num 1;ret 0;block;goto 1;", 6, 31);
        Check.taken("block;goto 5;block;goto 1;block;goto 1;block;goto 2;block;goto 3;block;goto 4;", 0);
        Check.refused("block;goto 4;block;goto 1;block;goto 1;block;goto 2;block;goto 3;block;goto 4;", 6, 78);
    }

    private static void toldNames() {
        Check.sentence("Terms", "a NAME is told that there is not;");
        Check.refused("block;ret 0;", 6, 12);
        Check.taken("block;num 1;ret 0;", 1);
        Check.refused("block;num 1;ret 1;", 6, 18);
        Check.taken("block;num 1;num 1;ret 1;", 2);
        Check.refused("block;num 1;num 1;ret 2;", 6, 24);
        Check.taken("block;num 1;if 0 1 1;block;ret 0;", 1);
        Check.refused("block;num 1;if 1 1 1;block;ret 0;", 6, 33);
        Check.taken("block;goto 2;block;neg 1;ret 0;block;num 1;goto 1;", 2);
        Check.refused("block;goto 2;block;neg 2;ret 0;block;num 1;goto 1;", 6, 50);
        Check.refused("block;num 1;add 0 2;ret 0;", 6, 26);
        Check.taken("block;num 1;goto 1;block;phi 0 1;goto 1;", 2);
        Check.refused("block;num 1;goto 1;block;phi 0 2;goto 1;", 6, 40);
        Check.refused("block;" + "num1;".repeat(19) + "ret 19;", 6, 108);
        Check.taken("block;" + "num1;".repeat(20) + "ret 19;", 20);
    }

    private static void countedPhis() {
        Check.sentence("Terms", "a phi has not as many OPERANDS as its BLOCK has PREDS;");
        Check.refused("block;phi 0;ret 0;", 6, 18);
        Check.taken("block;num 1;goto 1;block;phi 0;ret 0;", 2);
        Check.refused("block;num 1;goto 1;block;phi 0 0;ret 0;", 6, 39);
        Check.refused("block;num 1;goto 1;block;phi 0;goto 1;", 6, 38);
        Check.taken("block;num 1;goto 1;block;phi 0 0;goto 1;", 2);
        Check.refused("block;num 1;goto 1;block;phi 0 0 0;goto 1;", 6, 42);
        Check.taken("block;num 1;if 0 1 1;block;phi 0;ret 0;", 2);
        Check.refused("block;num 1;if 0 1 1;block;phi 0 0;ret 0;", 6, 41);
        String six = "if 0 1 2;block;if 0 1 3;block;if 0 1 4;block;if 0 1 5;block;goto 1;";
        Check.refused("block;num 1;goto 1;block;phi 0 0 0 0 0;" + six, 6, 39 + six.length());
        Check.taken("block;num 1;goto 1;block;phi 0 0 0 0 0 0;" + six, 2);
        Check.refused("block;num 1;goto 1;block;phi 0 0 0 0 0 0 0;" + six, 6, 43 + six.length());
        Check.refused("block;num 1;goto 1;block;phi" + " 0".repeat(140) + ";ret 0;", 6, 315);
    }

    private static void seenOperands() {
        Check.sentence("Terms", "an OPERAND is not SEEN at its NAME");
        Check.taken("block;num 1;neg 0;num 1;ret 0;", 3);
        Check.refused("block;num 1;neg 1;num 1;ret 0;", 6, 30);
        Check.refused("block;num 1;neg 2;num 1;ret 0;", 6, 30);
        Check.refused("block;num 1;add 0 1;num 1;ret 0;", 6, 32);
        Check.refused("block;num 1;add 1 0;num 1;ret 0;", 6, 32);
        Check.taken("block;num 1;if 0 1 2;block;neg 0;ret 1;block;ret 0;", 2);
        Check.refused("block;num 1;if 0 1 2;block;neg 0;ret 1;block;neg 1;ret 0;", 6, 57);
        Check.refused("block;num 1;if 0 1 2;block;neg 2;ret 1;block;neg 0;ret 0;", 6, 57);
    }

    private static void seenPhiOperands() {
        Check.sentence("Terms", "(of a phi: the i-th one at the END of the i-th PRED);");
        String ways = "block;num 1;if 0 1 2;block;num 2;goto 3;block;num 3;goto 3;block;";
        Check.taken(ways + "phi 1 2;ret 3;", 4);
        Check.refused(ways + "phi 2 2;ret 3;", 6, ways.length() + 14);
        Check.refused(ways + "phi 1 1;ret 3;", 6, ways.length() + 14);
        Check.refused(ways + "phi 2 1;ret 3;", 6, ways.length() + 14);
        Check.taken(ways + "phi 0 0;ret 3;", 4);
        // itself, and one behind it, at the end of its own block
        Check.taken("block;num 1;goto 1;block;phi 0 1;neg 1;goto 1;", 3);
        Check.taken("block;num 1;goto 1;block;phi 0 2;neg 1;goto 1;", 3);
        Check.refused("block;num 1;goto 1;block;phi 1 0;neg 1;goto 1;", 6, 46);
        Check.refused("block;num 1;goto 1;block;phi 2 0;neg 1;goto 1;", 6, 46);
    }

    private static void seenAtEnds() {
        Check.sentence("Terms", "the NAME of if, ret is not SEEN at that END.");
        String ways = "block;num 1;if 0 1 2;block;num 2;goto 3;block;num 3;goto 3;block;num 4;";
        Check.taken(ways + "ret 0;", 4);
        Check.refused(ways + "ret 1;", 6, ways.length() + 6);
        Check.refused(ways + "ret 2;", 6, ways.length() + 6);
        Check.taken(ways + "ret 3;", 4);
        Check.taken(ways + "if 0 3 3;", 4);
        Check.refused(ways + "if 1 3 3;", 6, ways.length() + 9);
        Check.refused(ways + "if 2 3 3;", 6, ways.length() + 9);
        Check.taken(ways + "if 3 3 3;", 4);
    }

    private static void takenText() {
        Check.sentence("Terms", "A text that is taken tells all, in place of what there was (what no line tells is as at first; "
            + "SHEETS and what torn() tells stay);");
        ValueNumberer x = Check.taken("block;num 5;arg 1;if 1 1 2;block;add 0 0;goto 2;block;phi 0 2;ret 3;", 4);
        Check.due("run", x.run(0, 1, 0, 0), 10);
        Check.due("sheet", x.sheet(0, 1, 7), 1);
        Check.due("sheet 3", x.sheet(3, 1, 4), 1);
        Check.due("lay", x.lay(3, 1, 9), 1);
        Check.due("read", x.read(3, 2, 0, 1), 0);
        Check.feedAll(x, THOSE);
        Check.due("text()", x.text(), 4);
        Picture.dueAlike("as a new object with this text, but for its sheets", x, withThose());
        Check.due("CELLS stay", x.count(2), 7);
        Check.due("torn() stays", x.torn(), 3);
        Check.due("read", x.read(3, 1, 0, 1), 1);
        Check.due("a CELL stays", x.value(0), 9);
        // PREDS and what DOMINATES are found anew: there, past it, and there again
        Check.feedAll(x, "block;arg 0;if 0 1 2;block;goto 2;block;ret 0;");
        Check.due("text()", x.text(), 1);
        Check.due("PREDS", x.block(2, 6), 2);
        Check.due("what DOMINATES it", x.block(2, 7), 5);
        Check.feedAll(x, THOSE);
        Check.due("text()", x.text(), 4);
        Check.due("PREDS", x.block(2, 6), 1);
        Check.due("what DOMINATES it", x.block(2, 7), 7);
    }

    private static ValueNumberer withThose() {
        ValueNumberer y = Check.taken(THOSE, 4);
        y.sheet(0, 1, 7);
        y.read(0, 2, 0, 1);
        return y;
    }

    private static void taken() {
        Check.sentence("Terms", "IMAGES are gone.");
        ValueNumberer x = Check.taken(ONE, 1);
        Check.due("keep", x.keep(0) + x.keep(1), 0);
        Check.feedAll(x, "block;");
        Check.due("text() refused", x.text(), -16);
        Check.due("IMAGES stay", x.count(0), 2);
        Check.feedAll(x, ONE);
        Check.due("text()", x.text(), 1);
        Check.due("IMAGES", x.count(0), 0);
        Check.due("back(0)", x.back(0), -2);
        Check.due("back(1)", x.back(1), -2);
        Check.due("keep", x.keep(0), 0);
        Check.due("text() of nothing", x.text(), 0);
        Check.due("back(0) then", x.back(0), -2);
    }

    // ---- Promises 1 to 5

    private static void newObject() {
        Check.sentence("Promise 1", "No BLOCKS;");
        ValueNumberer x = new ValueNumberer();
        for (int what = 0; what <= 4; what++) Check.due("rule " + what, x.rule(what), 0);
        Check.due("block(0, 1)", x.block(0, 1), -1);
        Check.due("pred(0, 0)", x.pred(0, 0), -1);
        Check.due("name(0, 0)", x.name(0, 0), -1);
        Check.due("run", x.run(0, 0, 0, 0), 2000000000000L);
        Check.due("bytes", x.count(1), 0);
        Check.due("fault()", x.fault(), 0);
        Check.due("back(0)", new ValueNumberer().back(0), -2);
        Check.due("went(0)", new ValueNumberer().went(0), -4);
    }

    private static void newSheets() {
        Check.sentence("Promise 1", "SHEETS have nothing.");
        ValueNumberer x = new ValueNumberer();
        Check.due("CELLS", x.count(2), -4);
        Check.due("torn()", x.torn(), 0);
        for (int k = 0; k <= 3; k++) {
            Check.due("lay " + k, x.lay(k, 0, 0), -11);
            Check.due("read " + k, x.read(k, k % 3, 0, 1), 0);
            Check.due("torn() of " + k, x.torn(), 1);
        }
    }

    private static void bytes() {
        Check.sentence("Promise 2", "A byte (0 to 127) comes behind THE TAPE: how many it has.");
        ValueNumberer x = new ValueNumberer();
        Check.due("feed(-1)", x.feed(-1), -1);
        Check.due("none as yet", x.count(1), 0);
        Check.due("feed(0)", x.feed(0), 1);
        Check.due("feed(1)", x.feed(1), 2);
        Check.due("feed(126)", x.feed(126), 3);
        Check.due("feed(127)", x.feed(127), 4);
        Check.due("feed(128)", x.feed(128), -1);
        Check.due("four", x.count(1), 4);
        for (int c : new int[] {-128, -97, 97 + 128, 97 + 256, 32 - 256, Integer.MIN_VALUE, Integer.MAX_VALUE}) {
            Check.due("feed(" + c + ")", x.feed(c), -1);
        }
        ValueNumberer y = fed("block;num 7;re");
        Check.due("behind those there were", y.feed('t'), 15);
        Check.feedAll(y, "0;");
        Check.due("text()", y.text(), 1);
    }

    private static void fullTape() {
        Check.sentence("Promise 2", "BAD; FULL: more than 320.");
        ValueNumberer x = fed(ONE + blanks(300));
        Check.due("319th", x.feed(' '), 319);
        Check.due("-1 ahead of it", x.feed(-1), -1);
        Check.due("320th", x.feed(' '), 320);
        Check.due("321st", x.feed('?'), -3);
        Check.due("-1, too", x.feed(-1), -1);
        Check.due("128, too", x.feed(128), -1);
        Check.due("321st again", x.feed('?'), -3);
        Check.due("text() without it", x.text(), 1);
        Check.due("room again", x.feed(' '), 1);
    }

    private static void keptBytes() {
        Check.sentence("Promise 3", "THE TAPE keeps its first n bytes: how many it had.");
        ValueNumberer x = fed(ONE + "?");
        Check.due("end(19)", x.end(19), 19);
        Check.due("end(18)", x.end(18), 19);
        Check.due("18", x.count(1), 18);
        Check.due("text() of them", x.text(), 1);
        Check.due("end(0) of none", x.end(0), 0);
        ValueNumberer y = fed("ab");
        Check.due("end(1)", y.end(1), 2);
        Check.due("end(0)", y.end(0), 1);
        Check.due("none", y.count(1), 0);
        Check.due("feed", y.feed('b'), 1);
        ValueNumberer z = fed(blanks(320));
        Check.due("end(320)", z.end(320), 320);
        Check.due("end(319)", z.end(319), 320);
        Check.due("feed", z.feed(' '), 320);
    }

    private static void badEnd() {
        Check.sentence("Promise 3", "BAD.");
        ValueNumberer x = new ValueNumberer();
        Check.due("end(1) of none", x.end(1), -1);
        Check.due("end(-1) of none", x.end(-1), -1);
        Check.feedAll(x, "abc");
        Check.due("end(4)", x.end(4), -1);
        Check.due("end(-1)", x.end(-1), -1);
        Check.due("end(320)", x.end(320), -1);
        Check.due("end(MIN)", x.end(Integer.MIN_VALUE), -1);
        Check.due("end(MAX)", x.end(Integer.MAX_VALUE), -1);
        Check.due("three", x.count(1), 3);
        Check.due("end(3)", x.end(3), 3);
        ValueNumberer y = fed(blanks(320));
        Check.due("end(321)", y.end(321), -1);
    }

    private static void toldNamesOrPlace() {
        Check.sentence("Promise 4", "THE TAPE (empty then, by a FAULT, too) tells all: how many NAMES; "
            + "-10 less the place of its FAULT: that which was told stays.");
        Check.due("text() of a new object", new ValueNumberer().text(), 0);
        ValueNumberer x = Check.taken("block;goto 1;block;goto 1;", 0);
        Check.due("empty", x.count(1), 0);
        Check.feedAll(x, ONE);
        Check.due("one NAME", x.text(), 1);
        Check.feedAll(x, "block;" + "num1;".repeat(20) + "ret 0;");
        Check.due("twenty", x.text(), 20);
        Check.feedAll(x, "?");
        Check.due("place 0", x.text(), -10);
        Check.due("empty by a FAULT", x.count(1), 0);
        Check.due("twenty stay", x.rule(1), 20);
        Check.feedAll(x, " ?");
        Check.due("place 1", x.text(), -11);
        Check.due("run of what stays", x.run(0, 0, 0, 0), 1);
        Check.refused(blanks(319) + "?", 1, 319);
        Check.refused("block;" + blanks(314), 2, 320);
    }

    private static void latestFault() {
        Check.sentence("Promise 5", "The FAULT of the latest text(); 0.");
        ValueNumberer x = new ValueNumberer();
        Check.due("no text() as yet", x.fault(), 0);
        String[] texts = {"?", ";", "block;arg 4;", SIX + "goto 1;block", "block;ret 0;"};
        int[] faults = {1, 2, 3, 5, 6};
        for (int i = 0; i < texts.length; i++) {
            Check.feedAll(x, texts[i]);
            Check.due("ahead of text()", x.fault(), i == 0 ? 0 : faults[i - 1]);
            Check.due("text() refused", x.text() <= -10 ? 1 : 0, 1);
            Check.due("its FAULT", x.fault(), faults[i]);
            Check.due("again", x.fault(), faults[i]);
        }
        Check.feedAll(x, ONE);
        Check.due("text() taken", x.text(), 1);
        Check.due("none", x.fault(), 0);
    }
}
