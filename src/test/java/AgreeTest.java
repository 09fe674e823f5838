/** Promise 25: agree. */
public final class AgreeTest {
    public static void main(String[] args) {
        seeds();
        differences();
        voids();
        behindPhis();
        noLatestRun();
        wrongNumbers();
        Check.finish();
    }

    /** The arguments of runs by a seed, told again in another way. */
    private static int[] argumentsBySeed(int seed, int many) {
        int[] got = new int[many];
        long state = seed & 0xffffffffL;
        for (int i = 0; i < many; i++) {
            state = (state * 1103515245L + 12345L) & 0xffffffffL;
            got[i] = (int) (state / 65536 % 32768 % 9) - 4;
        }
        return got;
    }

    private static void seeds() {
        ValueNumberer x = Check.taken("block;arg 0;arg 1;arg 2;arg 3;num 2;ret 0;", 5);
        int[] seeds = {0, 1, -1, 42, 123456789, Integer.MIN_VALUE, Integer.MAX_VALUE};
        for (int seed : seeds) {
            for (int n = 1; n <= 50; n += 7) {
                int[] row = argumentsBySeed(seed, 4 * n);
                for (int a = 0; a < 4; a++) {
                    int many = 0;
                    for (int r = 0; r < n; r++) if (row[4 * r + a] != 2) many++;
                    Check.due("agree " + seed + " " + n + " arg " + a, x.agree(seed, n, a, 4, 0), many);
                }
                Check.due("runs that come to ret", x.agree(seed, n, 0, 4, 1), n);
            }
        }
        Check.due("50 runs", x.agree(7, 50, 4, 4, 1), 50);
        Check.due("with itself", x.agree(7, 50, 0, 0, 0), 0);
        Check.due("behind m, k has none as yet", x.agree(7, 50, 4, 0, 0), 0);
    }

    private static void differences() {
        // a counter up to the first argument, never above 0 times when that is below 1
        ValueNumberer x = Check.taken("block;arg 0;num 0;num 1;goto 1;block;phi 1 5;less 3 0;add 3 2;if 4 1 2;block;ret 3;", 6);
        int[] row = argumentsBySeed(3, 80);
        int turns = 0;
        for (int r = 0; r < 20; r++) turns += Math.max(row[4 * r], 0);
        Check.due("each turn once more", x.agree(3, 20, 1, 5, 0), turns + 20);
        Check.due("in turns but the first", x.agree(3, 20, 1, 3, 0), turns);
        // of the turn before, since it comes behind; in the first turn there is none
        Check.due("a name behind", x.agree(3, 20, 5, 3, 0), 0);
        // with a loop that does not end for some
        ValueNumberer y = Check.taken("block;arg 0;goto 1;block;if 0 1 2;block;ret 0;", 1);
        int ends = 0;
        for (int r = 0; r < 20; r++) if (row[4 * r] <= 0) ends++;
        Check.due("those that come to ret", y.agree(3, 20, 0, 0, 1), ends);
    }

    private static void voids() {
        ValueNumberer x = Check.taken("block;num 99;num 99;num 1;ret 0;", 3);
        Check.due("void and void", x.agree(1, 10, 0, 1, 0), 0);
        Check.due("void and a number", x.agree(1, 10, 0, 2, 0), 10);
        Check.due("two numbers of other kinds", x.agree(1, 10, 1, 2, 0), 10);
        ValueNumberer y = Check.taken("block;num 5;arg 0;num 6;ret 0;", 3);
        y.sweep();
        Check.due("one that is gone gets none", y.agree(1, 10, 1, 0, 0), 0);
        Check.due("behind one that is gone", y.agree(1, 10, 0, 2, 0), 0);
    }

    private static void behindPhis() {
        // both change at once: behind all phi of the block they are never the same
        ValueNumberer x = Check.taken("block;num 0;num 1;num 3;goto 1;block;phi 0 4;phi 1 6;less 4 2;add 4 1;if 5 1 2;block;ret 3;", 7);
        // 3: 0 1 2, 4: 1 2 3
        Check.due("k behind m", x.agree(9, 1, 4, 3, 0), 3);
        Check.due("k ahead of m", x.agree(9, 1, 3, 4, 0), 3);
        Check.due("behind m k is of the turn before", x.agree(9, 1, 6, 4, 0), 0);
        Check.due("another of the turn before", x.agree(9, 1, 5, 4, 0), 2);
    }

    private static void noLatestRun() {
        ValueNumberer x = Check.taken("block;arg 0;num 1;add 0 1;ret 2;", 3);
        x.agree(1, 3, 0, 1, 0);
        Check.due("no run as yet", x.went(0), -4);
        Check.due("no value as yet", x.value(0), 2000000000000L);
        Check.due("run", x.run(100, 0, 0, 0), 101);
        x.agree(1, 50, 0, 2, 0);
        Check.due("value of the latest run", x.value(0), 100);
        Check.due("values of the latest run", x.went(1), 3);
        Check.due("two calls are alike", x.agree(1, 50, 0, 1, 0), x.agree(1, 50, 0, 1, 0));
    }

    private static void wrongNumbers() {
        ValueNumberer x = Check.taken("block;arg 0;num 1;ret 0;", 2);
        Check.due("n 0", x.agree(1, 0, 0, 0, 0), -1);
        Check.due("n 51", x.agree(1, 51, 0, 0, 0), -1);
        Check.due("n -1", x.agree(1, -1, 0, 0, 0), -1);
        Check.due("k 2", x.agree(1, 1, 2, 0, 0), -1);
        Check.due("k -1", x.agree(1, 1, -1, 0, 0), -1);
        Check.due("m 2", x.agree(1, 1, 0, 2, 0), -1);
        Check.due("m -1", x.agree(1, 1, 0, -1, 0), -1);
        Check.due("what 2", x.agree(1, 1, 0, 0, 2), -1);
        Check.due("what -1", x.agree(1, 1, 0, 0, -1), -1);
        Check.due("without blocks", new ValueNumberer().agree(1, 1, 0, 0, 1), -1);
    }
}
