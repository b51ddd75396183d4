/** Promises 1 to 8: a new object, status, the fraction, trays. */
public final class TraysTest {
    private static final Check CHECK = new Check();

    public static void main(String[] args) {
        newObject();
        trays();
        cutting();
        places();
        pouring();
        pouringWrong();
        CHECK.end();
    }

    /** Promises 1 to 4. */
    private static void newObject() {
        AskBack x = new AskBack();
        CHECK.due("status() of a new object", x.status(), 0);
        CHECK.due("top() of a new object", x.top(), 0);
        CHECK.due("bottom() of a new object", x.bottom(), 1);
        CHECK.due("status() behind top(), bottom()", x.status(), 0);
        for (int what = 0; what < 3; what++) {
            CHECK.due(x, "many of a new object", x.many(what), 0, 0);
        }
        for (int script = 0; script < 3; script++) {
            for (int what = 0; what < 4; what++) {
                CHECK.due(x, "count of a new object", x.count(script, what), 0, 0);
            }
        }
        for (int tray = 0; tray < 4; tray++) {
            CHECK.refused(x, "read of a missing tray", x.read(tray, 0), 2);
        }
        CHECK.refused(x, "line(1) from an empty tape", x.line(1), 1);
        CHECK.refused(x, "back() without a mark", x.back(), 6);
        CHECK.due("fault(0) ahead of any", x.fault(0), -1);
        CHECK.due("fault(1) ahead of any", x.fault(1), -1);
        CHECK.due("feed() has no status", x.feed(0, 0, 0, 0, 0), 20);
        CHECK.due("status() of the latest call that has one", x.status(), 6);
        x.top();
        x.bottom();
        x.fault(0);
        x.status();
        CHECK.due("status() behind calls without one", x.status(), 6);
    }

    /** Promise 5. */
    private static void trays() {
        AskBack x = new AskBack();
        CHECK.due(x, "tray(-1, 0, 1)", x.tray(-1, 0, 1), 1);
        CHECK.due(x, "tray(4, 0, 1)", x.tray(4, 0, 1), 1);
        CHECK.due(x, "tray(0, -1, 1)", x.tray(0, -1, 1), 1);
        CHECK.due(x, "tray(0, 4, 1)", x.tray(0, 4, 1), 1);
        CHECK.due(x, "tray(0, 0, -1)", x.tray(0, 0, -1), 1);
        CHECK.due(x, "tray(0, 0, 61)", x.tray(0, 0, 61), 1);
        CHECK.refused(x, "read behind trays that can't be", x.read(0, 0), 2);
        CHECK.due(x, "tray(3, 3, 60)", x.tray(3, 3, 60), 0);
        CHECK.due(x, "read(3, 59)", x.read(3, 59), 0, 0);
        CHECK.due(x, "tray(0, 0, 0)", x.tray(0, 0, 0), 0);
        CHECK.refused(x, "read of a tray of none", x.read(0, 0), 3);
        x.write(3, 5, 77);
        CHECK.due(x, "a tray made anew", x.tray(3, 1, 6), 0);
        CHECK.due(x, "its numbers are 0", x.read(3, 5), 0, 0);
        CHECK.refused(x, "and it has no more of them", x.read(3, 6), 3);
        x.write(3, 5, 77);
        CHECK.due(x, "a tray that can't be", x.tray(3, 1, 61), 1);
        CHECK.due(x, "the old one stays", x.read(3, 5), 77, 0);
    }

    /** Promises 6 and 7: numbers are cut to a tray's sort. */
    private static void cutting() {
        AskBack x = new AskBack();
        long v = 0x123456789abcdef8L;
        long[] want = {(byte) v, (short) v, (int) v, v};
        for (int sort = 0; sort < 4; sort++) {
            x.tray(sort, sort, 2);
            CHECK.due(x, "write to sort " + sort, x.write(sort, 1, v), 0);
            CHECK.due(x, "read of sort " + sort, x.read(sort, 1), want[sort], 0);
            CHECK.due(x, "read of the place ahead", x.read(sort, 0), 0, 0);
            x.write(sort, 0, -1);
            CHECK.due(x, "read of -1", x.read(sort, 0), -1, 0);
        }
        x.write(0, 0, 200);
        CHECK.due(x, "read of 200 in 8 bits", x.read(0, 0), -56, 0);
    }

    private static void places() {
        AskBack x = new AskBack();
        CHECK.due(x, "write to no tray", x.write(4, 0, 1), 1);
        CHECK.due(x, "write to no tray", x.write(-1, 0, 1), 1);
        CHECK.due(x, "write to a missing tray", x.write(0, -1, 1), 2);
        x.tray(0, 2, 3);
        CHECK.due(x, "write to place 3 of 3", x.write(0, 3, 1), 3);
        CHECK.due(x, "write to place -1", x.write(0, -1, 1), 3);
        CHECK.due(x, "write to place 2 of 3", x.write(0, 2, 1), 0);
        CHECK.refused(x, "read of no tray", x.read(4, 0), 1);
        CHECK.refused(x, "read of no tray", x.read(-1, 0), 1);
        CHECK.refused(x, "read of place 3 of 3", x.read(0, 3), 3);
        CHECK.refused(x, "read of place -1", x.read(0, -1), 3);
        CHECK.refused(x, "read of a far place", x.read(0, Integer.MAX_VALUE), 3);
        CHECK.due(x, "read(0, 2)", x.read(0, 2), 1, 0);
    }

    /** Promise 8. */
    private static void pouring() {
        AskBack x = new AskBack();
        Check.fill(x, 0, 1, 2, 3, 4, 5);
        Check.fill(x, 1, 9, 9, 9);
        CHECK.due(x, "pour(0, 3, 1, 1, 2)", x.pour(0, 3, 1, 1, 2), 0);
        row(x, 1, 9, 4, 5);
        row(x, 0, 1, 2, 3, 4, 5);
        CHECK.due(x, "pour to its own, up", x.pour(0, 0, 0, 1, 4), 0);
        row(x, 0, 1, 1, 2, 3, 4);
        CHECK.due(x, "pour to its own, down", x.pour(0, 2, 0, 0, 3), 0);
        row(x, 0, 2, 3, 4, 3, 4);
        CHECK.due(x, "pour of none, behind the last", x.pour(0, 5, 1, 3, 0), 0);
        row(x, 1, 9, 4, 5);
    }

    private static void pouringWrong() {
        AskBack x = new AskBack();
        CHECK.due(x, "pour of no tray", x.pour(4, 0, 0, 0, 1), 1);
        CHECK.due(x, "pour to no tray", x.pour(0, 0, -1, 0, 1), 1);
        CHECK.due(x, "pour below 0, of missing trays", x.pour(0, 0, 1, 0, -1), 1);
        CHECK.due(x, "pour from below 0, of missing trays", x.pour(0, -1, 1, 0, 1), 1);
        CHECK.due(x, "pour to below 0, of missing trays", x.pour(0, 0, 1, -1, 1), 1);
        CHECK.due(x, "pour of a missing tray", x.pour(0, 0, 1, 0, 1), 2);
        x.tray(0, 0, 3);
        CHECK.due(x, "pour to a missing tray", x.pour(0, 0, 1, 0, 9), 2);
        x.tray(1, 1, 3);
        CHECK.due(x, "pour among unlike sorts, ahead of places", x.pour(0, 9, 1, 0, 9), 8);
        x.tray(1, 0, 2);
        CHECK.due(x, "pour of too few", x.pour(0, 2, 1, 0, 2), 3);
        CHECK.due(x, "pour to too few", x.pour(0, 0, 1, 1, 2), 3);
        CHECK.due(x, "pour of none from no place", x.pour(0, 4, 1, 0, 0), 3);
        CHECK.due(x, "pour of very many", x.pour(0, 1, 1, 1, Integer.MAX_VALUE), 3);
        CHECK.due(x, "pour from very far", x.pour(0, Integer.MAX_VALUE, 1, 0, Integer.MAX_VALUE), 3);
        row(x, 1, 0, 0);
    }

    private static void row(AskBack x, int tray, long... want) {
        for (int i = 0; i < want.length; i++) {
            CHECK.due("read(" + tray + ", " + i + ")", x.read(tray, i), want[i]);
        }
    }
}
