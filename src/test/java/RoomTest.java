import java.lang.management.ManagementFactory;

/** A run's calls live in one room: an object is made of few numbers, and its calls make nothing more. */
public final class RoomTest {
    private static final com.sun.management.ThreadMXBean ROOM =
            (com.sun.management.ThreadMXBean) ManagementFactory.getThreadMXBean();

    public static void main(String[] args) {
        Check check = new Check();
        dearCalls(new AskBack());
        long before = taken();
        AskBack x = new AskBack();
        long made = taken() - before;
        check.due("an object takes " + made + " bytes, at most 400,000", made <= 400_000, true);
        before = taken();
        x.face(0, 1, dearCalls(x), 200);
        long first = taken() - before;
        check.due("the first calls take " + first + " bytes, at most 400,000", first <= 400_000, true);
        before = taken();
        for (int i = 0; i < 20; i++) {
            askAll(x);
        }
        long more = taken() - before;
        check.due("more calls take " + more + " bytes, at most 2,000", more <= 2_000, true);
        check.end();
    }

    private static long taken() {
        return ROOM.getThreadAllocatedBytes(Thread.currentThread().getId());
    }

    /** Scripts and lines for which all that is searched has much to search. */
    private static int dearCalls(AskBack x) {
        StringBuilder text = new StringBuilder("turn a b;");
        for (int i = 0; i < 6; i++) {
            char c = (char) ('a' + i);
            text.append("key ").append(c).append(" rank ").append(i).append(";when * ").append(c).append(" * say 1 ");
            text.append(c).append(" 2 or 2 or go a or x;keep * ").append(c).append(" say 1 ").append(c).append(';');
        }
        Check.script(x, 0, text + "none m or n or o;");
        Check.script(x, 1, "key x rank 1; when * say f 1 e d c; none a b c d e f;");
        for (int i = 0; i < 15; i++) {
            Check.line(x, "a b c d e f g " + (char) ('a' + i));
        }
        x.tray(0, 0, 16);
        for (int i = 0; i < 16; i++) {
            x.write(0, i, i % 15);
        }
        x.broken(1, 2);
        askAll(x);
        return 0;
    }

    private static void askAll(AskBack x) {
        x.feed(0x61206220, 0, 0, 0, 0);
        x.script(2, 0);
        x.fit(0, 0, 0);
        x.say(0, 1);
        x.talk(0, 0, 15);
        x.lead(0, 0, 6, 14);
        x.face(0, 1, 0, 200);
        x.broke(0, 0, 16);
        for (int what = 0; what < 4; what++) {
            x.mend(0, 0, 16, what);
        }
        x.least(0, 0, 15);
        x.orders(0);
        x.odds(7);
        x.doubt(1);
        x.claim(1);
        x.heard(5);
        x.mark();
        x.back();
    }
}
