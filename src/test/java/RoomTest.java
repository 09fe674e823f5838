import java.lang.management.ManagementFactory;

/** The room of a run: what an object and its calls take, against the room that there is. */
public final class RoomTest {
    // 600,000 objects, each of 16 bytes at least
    private static final long ROOM = 600000L * 16;
    private static final com.sun.management.ThreadMXBean THREADS =
        (com.sun.management.ThreadMXBean) ManagementFactory.getThreadMXBean();
    private static final String TEXT = "block;arg 0;num 0;num 1;goto 1;block;phi 1 5;phi 1 6;less 3 0;add 3 2;add 4 2;neg 3;if 7 2 1;block;ret 3;";

    public static void main(String[] args) {
        for (int i = 0; i < 3; i++) calls(new ValueNumberer());
        long before = taken();
        ValueNumberer x = new ValueNumberer();
        long made = taken() - before;
        before = taken();
        calls(x);
        long more = taken() - before;
        System.out.println("a new object takes " + made + " bytes, its calls " + more);
        Check.due("a new object fits into the room", made > 0 && made <= ROOM / 20 ? 1 : 0, 1);
        Check.due("its calls fit, too", more <= ROOM / 20 ? 1 : 0, 1);
        Check.finish();
    }

    private static long taken() {
        return THREADS.getCurrentThreadAllocatedBytes();
    }

    private static long calls(ValueNumberer x) {
        long sum = 0;
        for (int i = 0; i < TEXT.length(); i++) sum += x.feed(TEXT.charAt(i));
        sum += x.text() + x.fault();
        for (int i = 0; i < 5; i++) {
            sum += x.keep(0) + x.keep(1) + x.back(0) + x.sheet(i % 4, i % 3, 40) + x.lay(i % 4, i, i);
            sum += x.read(i % 4, i % 3, i, 9) + x.torn() + x.count(3) + x.agree(i, 50, 0, 3, 0) + x.run(i, 0, 0, 0);
            for (int n = 0; n < 10; n++) {
                sum += x.value(n) + x.part(n) + x.partAt(n, i) + x.leader(n) + x.form(n) + x.number(n) + x.name(n, 4);
                sum += x.operand(n, 0) + x.seen(n, i) + x.set(n, 0, i) + x.alter(n, i) + x.block(i % 3, n) + x.pred(1, i);
            }
            sum += x.classes(0) + x.classes(1) + x.classes(2) + x.replace() + x.sweep() + x.rule(4) + x.went(1) + x.end(0);
        }
        return sum;
    }
}
