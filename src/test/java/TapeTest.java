/** Promises 1 to 5: a new object, feed, end, text, fault. */
public final class TapeTest {
    private static final String LOOP = "block;num 1;arg 0;num 1;goto 1;block;phi 0 8;phi 2 9;less 3 1;if 5 2 3;"
        + "block;num 2;num 1;add 3 7;add 7 4;goto 1;block;add 3 4;ret 10;";

    public static void main(String[] args) {
        newObject();
        feeding();
        ending();
        takenTexts();
        noTokens();
        misplacedTokens();
        numbersOutOfBounds();
        tooMany();
        unsoundTexts();
        firstFaultCounts();
        whatStays();
        toldAnew();
        Check.finish();
    }

    private static void newObject() {
        ValueNumberer x = new ValueNumberer();
        for (int what = 0; what <= 4; what++) Check.due("new rule " + what, x.rule(what), 0);
        Check.due("new fault()", x.fault(), 0);
        Check.due("new torn()", x.torn(), 0);
        Check.due("new block(0, 0)", x.block(0, 0), -1);
        Check.due("new name(0, 0)", x.name(0, 0), -1);
        Check.due("new went(0)", x.went(0), -4);
        Check.due("new count(0)", x.count(0), 0);
        Check.due("new count(1)", x.count(1), 0);
        Check.due("new count(2)", x.count(2), -4);
        Check.due("new count(3)", x.count(3), 0);
        for (int k = 0; k < 4; k++) {
            Check.due("new lay " + k, x.lay(k, 0, 1), -11);
            Check.due("new read " + k, x.read(k, 0, 0, 1), 0);
            Check.due("new torn " + k, x.torn(), 1);
        }
        Check.due("new back(0)", x.back(0), -2);
        Check.due("new back(1)", x.back(1), -2);
    }

    private static void feeding() {
        ValueNumberer x = new ValueNumberer();
        Check.due("feed(-1)", x.feed(-1), -1);
        Check.due("feed(128)", x.feed(128), -1);
        Check.due("feed(MIN)", x.feed(Integer.MIN_VALUE), -1);
        Check.due("feed(MAX)", x.feed(Integer.MAX_VALUE), -1);
        Check.due("feed(0)", x.feed(0), 1);
        Check.due("feed(127)", x.feed(127), 2);
        for (int i = 3; i <= 320; i++) Check.due("feed " + i, x.feed(32), i);
        Check.due("feed beyond", x.feed(32), -3);
        Check.due("feed(128) beyond", x.feed(128), -1);
        Check.due("count(1) full", x.count(1), 320);
        Check.due("end(319)", x.end(319), 320);
        Check.due("feed again", x.feed(32), 320);
        Check.due("text() of byte 0", x.text(), -10);
        Check.due("fault() of byte 0", x.fault(), 1);
        Check.due("count(1) behind", x.count(1), 0);
    }

    private static void ending() {
        ValueNumberer x = new ValueNumberer();
        Check.due("end(0) of none", x.end(0), 0);
        Check.due("end(1) of none", x.end(1), -1);
        Check.due("end(-1) of none", x.end(-1), -1);
        Check.feedAll(x, "block;num 7;ret 0;block");
        Check.due("end(24)", x.end(24), -1);
        Check.due("end(-1)", x.end(-1), -1);
        Check.due("count(1)", x.count(1), 23);
        Check.due("end(23)", x.end(23), 23);
        Check.due("end(18)", x.end(18), 23);
        Check.due("count(1) then", x.count(1), 18);
        Check.due("end(19)", x.end(19), -1);
        Check.due("text()", x.text(), 1);
        Check.due("run", x.run(0, 0, 0, 0), 7);
        Check.feedAll(x, "ab");
        Check.due("end(0)", x.end(0), 2);
        Check.due("count(1) at last", x.count(1), 0);
    }

    private static void takenTexts() {
        Check.taken(LOOP, 11);
        Check.taken("", 0);
        Check.taken("   ", 0);
        Check.taken("block;num0;ret0;", 1);
        Check.taken("  block  ;  num  0  ;  ret  0  ;  ", 1);
        Check.taken("block;num 00;num 09;num 99;ret 02;", 3);
        Check.taken("block;arg0;arg3;add0 1;mul2 2;neg3;less4 0;div5 1;ret6;", 7);
        Check.taken("block;goto 1;block;goto 1;", 0);
        Check.taken("block;arg 0;if 0 1 1;block;phi 0;ret 1;", 2);
        Check.taken("block;num 1;goto 1;block;phi 0 1;goto 1;", 2);
        ValueNumberer x = Check.taken("block;goto1;block;goto2;block;goto3;block;goto4;block;goto5;block;goto1;", 0);
        Check.due("six blocks", x.rule(0), 6);
        x = Check.taken("block;" + "num1;".repeat(20) + "ret 19;", 20);
        Check.due("twenty names", x.rule(1), 20);
        Check.taken("block;" + "num1;".repeat(20) + "if 19 1 1;block;ret 19;", 20);
        x = Check.taken("block;goto 2;block;add 1 1;ret 0;block;num 4;goto 1;", 2);
        Check.due("a later block that dominates", x.run(0, 0, 0, 0), 8);
        x = Check.taken("block;num 7;ret 0;" + " ".repeat(302), 1);
        Check.due("run of a full tape", x.run(0, 0, 0, 0), 7);
    }

    private static void noTokens() {
        Check.refused("?", 1, 0);
        Check.refused("  A", 1, 2);
        Check.refused("123", 1, 0);
        Check.refused("block;num 123;ret 0;", 1, 10);
        Check.refused("block;num 1?;ret 0;", 1, 11);
        Check.refused("block;num -1;ret 0;", 1, 10);
        Check.refused("block;num 1;ret 0;000", 1, 18);
        Check.refused("block;num 1;ret 0;\t", 1, 18);
        Check.refused("block`", 1, 5);
        Check.refused("block{", 1, 5);
        Check.refused("block/", 1, 5);
        Check.refused("block:", 1, 5);
        Check.refused("block;num 1;ret 0;" + (char) 31, 1, 18);
        Check.refused("block;num 1;ret 0;!", 1, 18);
    }

    private static void misplacedTokens() {
        Check.refused(";", 2, 0);
        Check.refused("7", 2, 0);
        Check.refused("num 1;", 2, 0);
        Check.refused("blocks;", 2, 0);
        Check.refused("bloc", 2, 0);
        Check.refused("block", 2, 5);
        Check.refused("block  ", 2, 7);
        Check.refused("block;", 2, 6);
        Check.refused("block 1;", 2, 6);
        Check.refused("block;block;", 2, 6);
        Check.refused("block;num;", 2, 9);
        Check.refused("block;num num;", 2, 10);
        Check.refused("block;num 1 2;", 2, 12);
        Check.refused("block;num 1", 2, 11);
        Check.refused("block;num 1;", 2, 12);
        Check.refused("block;num 1;ret", 2, 15);
        Check.refused("block;num 1;ret 0", 2, 17);
        Check.refused("block;num 1;ret 0 0;", 2, 18);
        Check.refused("block;num 1;ret 0;ret 0;", 2, 18);
        Check.refused("block;num 1;ret 0;num 1;", 2, 18);
        Check.refused("block;num 1;ret 0;;", 2, 18);
        Check.refused("block;numx 1;", 2, 6);
        Check.refused("block;gotoif", 2, 6);
        Check.refused("block;neg 0 0;", 2, 12);
        Check.refused("block;add 0;", 2, 11);
        Check.refused("block;add 0 0 0;", 2, 14);
        Check.refused("block;mul 0 0 0;", 2, 14);
        Check.refused("block;less 0;", 2, 12);
        Check.refused("block;div 0;", 2, 11);
        Check.refused("block;phi;", 2, 9);
        Check.refused("block;phi 0 num;", 2, 12);
        Check.refused("block;arg;", 2, 9);
        Check.refused("block;num 1;phi 0;", 2, 12);
        Check.refused("block;phi 0;num 1;phi 0;", 2, 18);
        Check.refused("block;goto;", 2, 10);
        Check.refused("block;goto 1 1;", 2, 13);
        Check.refused("block;if 0 1;", 2, 12);
        Check.refused("block;if 0 1 1 1;", 2, 15);
        Check.refused("block;gone 0;", 2, 6);
        Check.refused("block;num 1;ret 0;nonsense", 2, 18);
        String[] strange = {"mum", "brg", "odd", "nul", "leg", "mess", "hiv", "chi", "soto", "of", "let", "phx", "goton", "els"};
        for (String word : strange) Check.refused("block;" + word + " 1;", 2, 6);
        Check.refused("clock;num 1;ret 0;", 2, 0);
        Check.refused(";".repeat(320), 2, 0);
        Check.refused("block;num 1;ret 0;" + ";".repeat(302), 2, 18);
    }

    private static void numbersOutOfBounds() {
        Check.refused("block;arg 4;", 3, 10);
        Check.refused("block;add 20 0;", 3, 10);
        Check.refused("block;add 0 20;", 3, 12);
        Check.refused("block;neg 99;", 3, 10);
        Check.refused("block;phi 20;", 3, 10);
        Check.refused("block;phi 0 20;", 3, 12);
        Check.refused("block;goto 0;", 3, 11);
        Check.refused("block;goto 6;", 3, 11);
        Check.refused("block;if 20 1 1;", 3, 9);
        Check.refused("block;if 0 0 1;", 3, 11);
        Check.refused("block;if 0 1 6;", 3, 13);
        Check.refused("block;if 0 1 00;", 3, 13);
        Check.refused("block;ret 20;", 3, 10);
    }

    private static void tooMany() {
        String six = "block;goto1;block;goto2;block;goto3;block;goto4;block;goto5;block;goto1;";
        Check.refused(six + "block", 5, 72);
        Check.refused(six + " block;?", 5, 73);
        Check.refused(six + "num", 2, 72);
        String twenty = "block;" + "num1;".repeat(20);
        Check.refused(twenty + "num1;ret 0;", 5, 106);
        Check.refused(twenty + "num ?", 5, 106);
        Check.refused(twenty + "neg 0;", 5, 106);
        Check.refused(twenty + "goto 1;block;phi 0;", 5, 119);
        Check.refused(twenty + "goto 1;block;arg 0;", 5, 119);
    }

    private static void unsoundTexts() {
        Check.refused("block;ret 0;", 6, 12);
        Check.refused("block;ret 0; ", 6, 13);
        Check.refused("block;goto 1;", 6, 13);
        Check.refused("block;num 1;if 0 1 2;block;ret 0;", 6, 33);
        Check.refused("block;num 1;if 0 2 1;block;ret 0;", 6, 33);
        Check.refused("block;num 1;ret 0;block;ret 0;", 6, 30);
        Check.refused("block;num 1;ret 0;block;goto 2;block;goto 1;", 6, 44);
        Check.refused("block;num 1;ret 1;", 6, 18);
        Check.refused("block;neg 0;ret 0;", 6, 18);
        Check.refused("block;neg 1;num 1;ret 0;", 6, 24);
        Check.refused("block;num 1;add 0 2;ret 0;", 6, 26);
        Check.refused("block;num 1;add 3 0;ret 0;", 6, 26);
        Check.refused("block;num 1;if 1 1 1;block;ret 0;", 6, 33);
        Check.refused("block;phi 0;ret 0;", 6, 18);
        Check.refused("block;num 1;goto 1;block;phi 0 0;ret 0;", 6, 39);
        Check.refused("block;num 1;if 0 1 1;block;phi 0 0;ret 0;", 6, 41);
        Check.refused("block;num 1;goto 1;block;phi 0;goto 1;", 6, 38);
        Check.refused("block;num 1;goto 1;block;phi 1 0;goto 1;", 6, 40);
        Check.refused("block;num 1;goto 1;block;phi 0 2;goto 1;", 6, 40);
        // neither of two ways dominates where they meet
        Check.refused("block;num 1;if 0 1 2;block;num 2;goto 3;block;goto 3;block;ret 1;", 6, 65);
        Check.refused("block;num 1;if 0 1 2;block;num 2;goto 3;block;goto 3;block;neg 1;ret 0;", 6, 71);
        Check.refused("block;num 1;if 0 1 2;block;num 2;goto 3;block;goto 3;block;phi 0 1;ret 0;", 6, 73);
        Check.taken("block;num 1;if 0 1 2;block;num 2;goto 3;block;goto 3;block;phi 1 0;ret 0;", 3);
        // far more operands than there may be preds
        Check.refused("block;num 1;goto 1;block;phi" + " 0".repeat(140) + ";ret 0;", 6, 315);
        Check.taken("block;num 1;goto 1;block;if 0 1 2;block;if 0 1 3;block;if 0 1 4;block;if 0 1 5;block;phi 0;if 1 1 1;", 2);
        Check.taken("block;num 1;goto 1;block;phi 0 0 0 0 0 1;if 0 1 2;block;if 0 1 3;block;if 0 1 4;block;if 0 1 5;block;goto 1;", 2);
    }

    private static void firstFaultCounts() {
        Check.refused("block;num 1;ret 5;block;?", 1, 24);
        Check.refused("block;arg 9 ?", 3, 10);
        Check.refused("block;num num ?", 2, 10);
        Check.refused("block;num 1;ret 5", 2, 17);
        Check.refused("block;add 20 123;", 3, 10);
        Check.refused("block;add 123 20;", 1, 10);
        Check.refused("goto 123;", 2, 0);
        Check.refused("block;goto 100;", 1, 11);
        Check.refused("block;num 1 100;", 1, 12);
    }

    private static void tell(ValueNumberer x, String text, int want) {
        Check.feedAll(x, text);
        Check.due("text() of " + text, x.text(), want);
    }

    private static void toldAnew() {
        ValueNumberer x = Check.taken(LOOP, 11);
        tell(x, "block;num 5;neg 0;ret 1;", 2);
        Check.due("names of block 0", x.block(0, 1), 2);
        Check.due("operands of a num", x.name(0, 2), 0);
        Check.due("operands", x.rule(4), 2);
        Check.due("phis", x.rule(3), 0);
        Check.due("sum of numbers", x.count(3), 5);
        tell(x, "block;arg 0;if 0 1 2;block;goto 2;block;ret 0;", 1);
        Check.due("preds", x.block(2, 6), 2);
        Check.due("dominators", x.block(2, 7), 5);
        tell(x, "block;arg 0;goto 1;block;goto 2;block;ret 0;", 1);
        Check.due("preds of the next", x.block(2, 6), 1);
        Check.due("dominators of the next", x.block(2, 7), 7);
        tell(x, "block;arg 0;if 0 1 2;block;goto 2;block;ret 0;", 1);
        Check.due("dominators as before", x.block(2, 7), 5);
        tell(x, "block;num 1;", -22);
        tell(x, "num 1;", -10);
        tell(x, "block;num 1;ret 0;", 1);
    }

    private static void whatStays() {
        ValueNumberer x = Check.taken(LOOP, 11);
        Check.due("run", x.run(3, 0, 0, 0), 6);
        x.keep(0);
        x.sheet(0, 2, 5);
        x.read(1, 0, 0, 1);
        Check.feedAll(x, "block;num 1;ret 1;");
        Check.due("text() refused", x.text(), -28);
        Check.due("fault()", x.fault(), 6);
        Check.due("names stay", x.rule(1), 11);
        Check.due("value stays", x.value(10), 6);
        Check.due("went stays", x.went(2), 1);
        Check.due("images stay", x.count(0), 1);
        Check.due("fault() asked again", x.fault(), 6);
        Check.feedAll(x, "block;num 1;ret 0;");
        Check.due("fault() ahead of text()", x.fault(), 6);
        Check.due("text() taken", x.text(), 1);
        Check.due("fault() then", x.fault(), 0);
        Check.due("no run", x.went(0), -4);
        Check.due("no value", x.value(0), 2000000000000L);
        Check.due("no images", x.count(0), 0);
        Check.due("no image", x.back(0), -2);
        Check.due("sheets stay", x.count(2), 5);
        Check.due("torn stays", x.torn(), 1);
        Check.due("blocks", x.rule(0), 1);
        Check.due("old name", x.name(1, 0), -1);
        Check.due("text() of nothing", x.text(), 0);
        Check.due("no blocks", x.rule(0), 0);
        Check.due("name is gone", x.name(0, 0), -1);
    }
}
