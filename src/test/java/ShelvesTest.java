/** Promises 1 to 8: a new object, ROWS, SHELVES and what somebody in one says. */
public final class ShelvesTest {
    private static final Check C = new Check("ShelvesTest");

    private static void newObject() {
        ThroughTheChain x = new ThroughTheChain();
        int[] due = {0, 0, 0, 9, 1, 0, 20, 0, 0, 1, 0};
        for (int what = 0; what < due.length; what++) {
            C.due(1, "status(" + what + ")", x.status(what), due[what]);
        }
        for (int what = 12; what <= 16; what++) {
            C.due(1, "status(" + what + ")", x.status(what), 0);
        }
        for (int s = 0; s < 8; s++) {
            C.due(1, "holds(" + s + ")", x.holds(s), -1);
        }
        C.due(1, "chainOf(0, NONE)", x.chainOf(0, -1), 0);
        C.due(1, "chainOf(1, NONE)", x.chainOf(1, -1), 0);
        C.due(1, "NONE", ThroughTheChain.NONE, -1);
    }

    private static void row() {
        ThroughTheChain x = Check.five();
        C.due(2, "row(0, 0, 0)", x.row(0, 0, 0), 1);
        C.due(2, "row(7, 4, 40)", x.row(7, 4, 40), 1);
        C.due(2, "holds(7)", x.holds(7), 4);
        C.due(2, "set(7, 39, 5)", x.set(7, 39, 5), 1);
        C.due(2, "element(7, 39)", x.element(7, 39), 1);
        C.due(2, "row(7, 3, 40)", x.row(7, 3, 40), 1);
        C.due(2, "element(7, 39), new", x.element(7, 39), 0);
        Check.fill(x, 6, 2, 8, 9);
        C.due(2, "row(6, 2, 2)", x.row(6, 2, 2), 1);
        C.due(2, "element(6, 0), new", x.element(6, 0), 0);
        C.due(2, "show(7, 2)", x.show(7, 2), 1);
        C.due(2, "row(7, 2, 1)", x.row(7, 2, 1), 1);
        C.due(2, "holds(7)", x.holds(7), 2);
        C.refused(2, x, "row(-1, 0, 0)", () -> x.row(-1, 0, 0), -2);
        C.refused(2, x, "row(8, 0, 0)", () -> x.row(8, 0, 0), -2);
        C.refused(2, x, "row(0, -1, 0)", () -> x.row(0, -1, 0), -2);
        C.refused(2, x, "row(0, 5, 0)", () -> x.row(0, 5, 0), -2);
        C.refused(2, x, "row(0, 0, -1)", () -> x.row(0, 0, -1), -2);
        C.refused(2, x, "row(0, 0, 41)", () -> x.row(0, 0, 41), -2);
        C.refused(2, x, "row(0, 0, least)", () -> x.row(0, 0, Integer.MIN_VALUE), -2);
    }

    private static void set() {
        long v = 0x1234_5678_9abc_def0L;
        long[] due = {(byte) 0xf0, (short) 0xdef0, (int) 0x9abcdef0L, v, 1};
        ThroughTheChain x = Check.five();
        for (int sort = 0; sort < 5; sort++) {
            x.row(sort, sort, 3);
            C.due(3, "set", x.set(sort, 1, v), 1);
            C.due(3, "element of sort " + sort, x.element(sort, 1), due[sort]);
            C.due(3, "element beside it", x.element(sort, 0), 0);
            C.due(3, "element behind it", x.element(sort, 2), 0);
        }
        x.set(0, 0, 128);
        C.due(3, "a byte 128", x.element(0, 0), -128);
        x.set(1, 0, 32768);
        C.due(3, "a short 32768", x.element(1, 0), -32768);
        x.set(2, 0, 1L << 31);
        C.due(3, "an int 2^31", x.element(2, 0), Integer.MIN_VALUE);
        x.set(4, 0, 256);
        C.due(3, "a boolean 256", x.element(4, 0), 1);
        x.set(4, 0, 0);
        C.due(3, "a boolean 0", x.element(4, 0), 0);
        x.show(5, 0);
        C.refused(3, x, "set(-1, 9, 0)", () -> x.set(-1, 9, 0), -2);
        C.refused(3, x, "set(8, 0, 0)", () -> x.set(8, 0, 0), -2);
        C.refused(3, x, "set of somebody", () -> x.set(5, 9, 0), -3);
        C.refused(3, x, "set of NOTHING", () -> x.set(6, 9, 0), -4);
        C.refused(3, x, "set(0, -1, 0)", () -> x.set(0, -1, 5), -2);
        C.refused(3, x, "set(0, 3, 0)", () -> x.set(0, 3, 5), -2);
    }

    private static void copy() {
        ThroughTheChain x = Check.five();
        Check.fill(x, 0, 2, 1, 2, 3, 4, 5);
        Check.fill(x, 1, 2, 0, 0, 0);
        C.due(4, "copy(0, 1, 1, 0, 3)", x.copy(0, 1, 1, 0, 3), 3);
        C.due(4, "element(1, 0)", x.element(1, 0), 2);
        C.due(4, "element(1, 2)", x.element(1, 2), 4);
        C.due(4, "copy upon itself", x.copy(0, 0, 0, 1, 4), 4);
        long[] due = {1, 1, 2, 3, 4};
        for (int i = 0; i < 5; i++) {
            C.due(4, "element(0, " + i + ") as they were", x.element(0, i), due[i]);
        }
        C.due(4, "copy down upon itself", x.copy(0, 0, 2, 0, 3), 3);
        C.due(4, "element(0, 1)", x.element(0, 1), 3);
        C.told(4, x, "copy of none at the end", () -> x.copy(0, 1, 5, 3, 0), 0);
        x.row(2, 3, 5);
        x.show(3, 0);
        C.refused(4, x, "copy(8, 3, ..)", () -> x.copy(8, 3, 0, 0, 0), -2);
        C.refused(4, x, "copy(3, -1, ..)", () -> x.copy(3, -1, 0, 0, 0), -2);
        C.refused(4, x, "copy of somebody", () -> x.copy(3, 0, -1, 0, 0), -3);
        C.refused(4, x, "copy to somebody", () -> x.copy(0, 3, -1, 0, 0), -3);
        C.refused(4, x, "copy of NOTHING to somebody", () -> x.copy(4, 3, 0, 0, 0), -3);
        C.refused(4, x, "copy of somebody to NOTHING", () -> x.copy(3, 4, 0, 0, 0), -3);
        C.refused(4, x, "copy between two SORTS", () -> x.copy(0, 2, -1, 0, 0), -3);
        C.refused(4, x, "copy to NOTHING", () -> x.copy(0, 4, -1, 0, 0), -4);
        C.refused(4, x, "copy of NOTHING", () -> x.copy(4, 0, -1, 0, 0), -4);
        C.refused(4, x, "copy from -1", () -> x.copy(0, 1, -1, 0, 1), -2);
        C.refused(4, x, "copy to -1", () -> x.copy(0, 1, 0, -1, 1), -2);
        C.refused(4, x, "copy of -1", () -> x.copy(0, 1, 0, 0, -1), -2);
        C.refused(4, x, "copy of too many", () -> x.copy(0, 1, 3, 0, 3), -2);
        C.refused(4, x, "copy to too few", () -> x.copy(0, 1, 0, 1, 3), -2);
        C.refused(4, x, "copy of none behind the end", () -> x.copy(0, 1, 6, 0, 0), -2);
        C.refused(4, x, "copy that wraps", () -> x.copy(0, 1, Integer.MAX_VALUE, 0, 2), -2);
        C.refused(4, x, "copy of the most", () -> x.copy(0, 1, 1, 0, Integer.MAX_VALUE), -2);
    }

    private static void elementAndHolds() {
        ThroughTheChain x = Check.five();
        Check.fill(x, 0, 3, 7, Long.MIN_VALUE);
        x.show(1, 4);
        C.told(5, x, "element(0, 0)", () -> x.element(0, 0), 7);
        C.told(5, x, "element(0, 1)", () -> x.element(0, 1), Long.MIN_VALUE);
        C.told(5, x, "element(0, 2)", () -> x.element(0, 2), 0);
        C.told(5, x, "element(0, -1)", () -> x.element(0, -1), 0);
        x.row(3, 0, 40);
        C.told(5, x, "element(3, 40)", () -> x.element(3, 40), 0);
        x.show(3, -1);
        C.told(5, x, "element(1, 0)", () -> x.element(1, 0), 0);
        C.told(5, x, "element(2, 0)", () -> x.element(2, 0), 0);
        C.told(5, x, "element(8, 0)", () -> x.element(8, 0), 0);
        C.told(5, x, "element(-1, 0)", () -> x.element(-1, 0), 0);
        x.show(0, 3);
        C.told(5, x, "element(0, 0) of somebody", () -> x.element(0, 0), 0);
        for (int sort = 0; sort < 5; sort++) {
            x.row(2, sort, 0);
            int want = sort;
            C.told(6, x, "holds a ROW", () -> x.holds(2), want);
        }
        C.told(6, x, "holds(1)", () -> x.holds(1), 14);
        C.told(6, x, "holds(3)", () -> x.holds(3), -1);
        C.told(6, x, "holds(-1)", () -> x.holds(-1), -1);
        C.told(6, x, "holds(8)", () -> x.holds(8), -1);
    }

    private static void show() {
        ThroughTheChain x = Check.five();
        C.due(7, "show(0, 0)", x.show(0, 0), 1);
        C.due(7, "holds(0)", x.holds(0), 10);
        C.due(7, "show(0, 4)", x.show(0, 4), 1);
        C.due(7, "holds(0)", x.holds(0), 14);
        C.due(7, "show(1, 4)", x.show(1, 4), 1);
        C.due(7, "status(10)", x.status(10), 2);
        C.due(7, "show(0, NONE)", x.show(0, -1), 1);
        C.due(7, "holds(0)", x.holds(0), -1);
        C.due(7, "show(0, NONE) again", x.show(0, -1), 1);
        x.row(2, 0, 3);
        C.due(7, "show(2, NONE)", x.show(2, -1), 1);
        C.due(7, "holds(2)", x.holds(2), -1);
        C.refused(7, x, "show(8, 0)", () -> x.show(8, 0), -2);
        C.refused(7, x, "show(-1, NONE)", () -> x.show(-1, -1), -2);
        C.refused(7, x, "show(0, 5)", () -> x.show(0, 5), -2);
        C.refused(7, x, "show(0, -2)", () -> x.show(0, -2), -2);
    }

    private static void says() {
        ThroughTheChain x = new ThroughTheChain();
        // The KINDS 0 to 5 in CHAIN 1, then two SISTERS more, one in each CHAIN.
        for (int kind = 0; kind < 6; kind++) {
            x.one(1, kind, 11, 10, 4);
            x.show(kind, kind);
        }
        x.one(1, 3, 5, 5, 0);
        x.one(0, 3, 5, 5, 0);
        // Rows by who it is, columns by what they are taken for; FORCE is 13, HEAVY 17, SLY 15.
        int[][] due = {{1, -3, -3, -3, -3, -3}, {1, 15, -3, -3, -3, -3}, {1, -3, 5, -3, -3, -3},
            {1, 15, -3, 1, -3, -3}, {1, -3, -3, -3, 17, -3}, {1, -3, 5, -3, -3, 15}};
        for (int s = 0; s < 6; s++) {
            for (int kind = 0; kind < 6; kind++) {
                int shelf = s;
                int taken = kind;
                String call = "says(" + s + ", " + kind + ")";
                if (due[s][kind] == -3) {
                    C.refused(8, x, call, () -> x.says(shelf, taken), -3);
                } else {
                    C.told(8, x, call, () -> x.says(shelf, taken), due[s][kind]);
                }
            }
        }
        x.tell(5, 2, 4);
        C.told(8, x, "says(5, 2), TIRED 4", () -> x.says(5, 2), 3);
        x.show(6, 7);
        C.told(8, x, "says of the only SISTER", () -> x.says(6, 3), 0);
        C.told(8, x, "says of the CHAIN", () -> x.says(6, 0), 0);
        x.row(6, 2, 1);
        C.refused(8, x, "says(8, 0)", () -> x.says(8, 0), -2);
        C.refused(8, x, "says(-1, 0)", () -> x.says(-1, 0), -2);
        C.refused(8, x, "says(7, 6)", () -> x.says(7, 6), -2);
        C.refused(8, x, "says(6, -1)", () -> x.says(6, -1), -2);
        C.refused(8, x, "says of a ROW", () -> x.says(6, 0), -3);
        C.refused(8, x, "says of NOTHING", () -> x.says(7, 0), -4);
    }

    public static void main(String[] args) {
        newObject();
        row();
        set();
        copy();
        elementAndHolds();
        show();
        says();
        C.end();
    }
}
