/** Promises 1 to 16: a new object, SHELVES and ROWS, the yard told and read, who is where. */
final class ShelfWalk {
    private static final String FIVE = YardEdges.FIVE;
    private static final String SIX = YardEdges.SIX;
    /** SHELF 0 a ROW of five ints, 1 one of three, 2 a ROW of longs, 3 somebody; 4 to 7 NOTHING. */
    private static final String SHELVES = SIX + "fill 0 2: 1 2 3 4 5 fill 1 2: 7 8 9 fill 2 3: 6 show(3, 4) ";

    static void all(Walk w) {
        rows(w);
        copy(w);
        shown(w);
        people(w);
        tape(w);
        whoIsWhere(w);
    }

    private static void rows(Walk w) {
        w.firstPromise();
        w.says("Nobody; SHELVES hold NOTHING; THE TAPE is empty.", t -> t.bare()
            .same("status(0) = 0 line(0) = 1 line(1) = 1 status(10) = 0 holds(0) = -1 holds(7) = -1 status(8) = 0 wipe() = 0")
            .refused("yard() = -20 back() = -5"));
        w.promise(2, "int row(int s, int sort, int n)");
        w.says("SHELF s holds a new ROW: 1.", t -> t.upon(SHELVES)
            .due("row(0, 2, 2) = 1 holds(0) = 2 element(0, 0) = 0 set(0, 1, 9) = 1 element(0, 1) = 9")
            .due("row(3, 1, 4) = 1 holds(3) = 1 row(7, 0, 0) = 1 holds(7) = 0 status(10) = 5")
            .upon("row(5, 2, 3) ").refused("set(5, 3, 1) = -2"));
        w.says("BAD.", t -> t.upon(SHELVES).refused("row(-1, 0, 1) = -2 row(8, 0, 1) = -2 row(0, -1, 1) = -2 row(0, 5, 1) = -2 "
            + "row(0, 0, -1) = -2 row(0, 0, 41) = -2"));
        w.promise(3, "int set(int s, int i, long v)");
        w.says("Element i of the ROW in SHELF s becomes v: 1.", t -> t.upon(SHELVES)
            .due("set(0, 3, 44) = 1 element(0, 2) = 3 element(0, 3) = 44 element(0, 4) = 5 element(1, 0) = 7")
            .due("set(2, 0, -9000000000) = 1 element(2, 0) = -9000000000"));
        w.says("BAD SHELF;", t -> t.upon(SHELVES).refused("set(-1, 0, 1) = -2 set(8, 0, 1) = -2 set(8, 9, 1) = -2"));
        w.says("OTHER;", t -> t.upon(SHELVES).refused("set(3, 0, 1) = -3 set(3, -1, 1) = -3"));
        w.says("NOTHING;", t -> t.upon(SHELVES).refused("set(4, 0, 1) = -4 set(4, -1, 1) = -4"));
        w.says("BAD i.", t -> t.upon(SHELVES).refused("set(0, 5, 1) = -2 set(0, -1, 1) = -2 set(1, 3, 1) = -2"));
    }

    private static void copy(Walk w) {
        w.promise(4, "int copy(int p, int q, int i, int j, int n)");
        w.says("n elements of the ROW in SHELF p from place i on come to places j on of that in q (as they were): n.", t -> t
            .upon(SHELVES)
            .due("copy(0, 1, 3, 1, 2) = 2 element(1, 0) = 7 element(1, 1) = 4 element(1, 2) = 5 element(0, 3) = 4")
            .due("copy(0, 0, 0, 1, 4) = 4 element(0, 0) = 1 element(0, 1) = 1 element(0, 2) = 2 element(0, 3) = 3 "
            + "element(0, 4) = 4")
            .due("copy(0, 0, 1, 0, 4) = 4 element(0, 0) = 2 element(0, 1) = 3 element(0, 2) = 4 element(0, 3) = 5 "
            + "element(0, 4) = 5")
            .due("copy(0, 1, 0, 0, 3) = 3 element(1, 0) = 1 element(1, 1) = 2 element(1, 2) = 3")
            .same("copy(0, 1, 0, 0, 0) = 0"));
        w.says("BAD SHELVES;", t -> t.upon(SHELVES)
            .refused("copy(-1, 0, 0, 0, 1) = -2 copy(8, 3, 0, 0, 1) = -2 copy(0, 8, 0, 0, 1) = -2 copy(4, -1, 0, 0, 1) = -2"));
        w.says("OTHER (also ROWS of two SORTS, if both hold something);", t -> t.upon(SHELVES)
            .refused("copy(3, 0, 0, 0, 1) = -3 copy(0, 3, 0, 0, 1) = -3 copy(3, 4, 0, 0, 1) = -3 copy(4, 3, 0, 0, 1) = -3")
            .refused("copy(0, 2, 0, 0, 1) = -3 copy(2, 0, 9, 0, 1) = -3"));
        w.says("NOTHING;", t -> t.upon(SHELVES)
            .refused("copy(4, 0, 0, 0, 1) = -4 copy(0, 4, 0, 0, 1) = -4 copy(4, 4, -1, 0, 1) = -4"));
        w.says("BAD the others.", t -> t.upon(SHELVES)
            .refused("copy(0, 1, -1, 0, 1) = -2 copy(0, 1, 0, -1, 1) = -2 copy(0, 1, 0, 0, -1) = -2")
            .refused("copy(0, 1, 5, 0, 1) = -2 copy(0, 1, 0, 3, 1) = -2 copy(0, 1, 0, 0, 4) = -2 copy(1, 0, 0, 0, 4) = -2"));
    }

    private static void shown(Walk w) {
        w.promise(5, "long element(int s, int i)");
        w.says("Element i of the ROW;", t -> t.upon(SHELVES + "fill 7 3: 4 9000000000 ")
            .same("element(0, 0) = 1 element(0, 4) = 5 element(1, 1) = 8 element(7, 1) = 9000000000"));
        w.says("0: none, no ROW (nothing is refused).", t -> t.upon(SHELVES)
            .same("element(0, 5) = 0 element(0, -1) = 0 element(3, 0) = 0 element(4, 0) = 0 element(8, 0) = 0 "
            + "element(-1, 0) = 0"));
        w.promise(6, "int holds(int s)");
        w.says("What SHELF s holds: NONE NOTHING, no SHELF; 0 to 4 a ROW by its SORT; 10 and the number of somebody.", t -> t
            .upon(SHELVES + "row(4, 0, 0) row(5, 1, 0) row(6, 4, 0) ")
            .same("holds(7) = -1 holds(8) = -1 holds(-1) = -1 holds(4) = 0 holds(5) = 1 holds(0) = 2 holds(2) = 3 "
            + "holds(6) = 4 holds(3) = 14"));
        w.promise(7, "int show(int s, int one)");
        w.says("SHELF s holds somebody, or NOTHING (one NONE): 1.", t -> t.upon(SHELVES)
            .due("show(0, 5) = 1 holds(0) = 15 element(0, 0) = 0 show(0, NONE) = 1 holds(0) = -1 show(3, NONE) = 1 "
            + "status(10) = 2"));
        w.says("BAD.", t -> t.upon(SHELVES)
            .refused("show(-1, 0) = -2 show(8, 0) = -2 show(8, NONE) = -2 show(0, 6) = -2 show(0, -2) = -2"));
        w.promise(8, "int says(int s, int kind)");
        String each = SIX + "show(0, 0) show(1, 1) show(3, 3) show(4, 4) ";
        w.says("What the one in SHELF s, taken for one of a KIND, says: HAND the CHAIN;", t -> t.upon(each)
            .same("says(0, 0) = 0 says(1, 0) = 0 says(3, 0) = 1 says(4, 0) = 1"));
        w.says("FIRM the HOLD beside nobody;", t -> t.upon(each).same("says(1, 1) = 8")
            .upon("one(0, 3, 4, 0, 1) one(0, 3, 6, 0, 2) one(0, 1, 3, 0, 9) show(1, 1) show(2, 2) ")
            .same("says(1, 1) = 8 says(2, 1) = 12"));
        w.says("WEAK the HOLD beside nobody;", t -> t.upon(each).same("says(4, 2) = 4")
            .upon("one(0, 2, 9, 0, 9) show(2, 0) ").same("says(2, 2) = 4"));
        w.says("SISTER how many other SISTERS are in the same CHAIN;", t -> t.upon(each).same("says(1, 3) = 1")
            .upon(each + "one(1, 3, 5, 5, 5) one(0, 3, 5, 5, 5) show(6, 6) ").same("says(1, 3) = 2 says(6, 3) = 0"));
        w.says("HEAVY, SLY the FORCE.", t -> t.upon(each).same("says(3, 4) = 20 says(4, 5) = 13"));
        w.says("BAD SHELF, KIND;", t -> t.upon(each)
            .refused("says(8, 0) = -2 says(-1, 0) = -2 says(0, 6) = -2 says(2, -1) = -2"));
        w.says("OTHER (also if they're of no such KIND nor of one under it);", t -> t.upon(each + "row(2, 0, 1) ")
            .refused("says(2, 0) = -3 says(0, 1) = -3 says(1, 2) = -3 says(3, 5) = -3 says(4, 1) = -3"));
        w.says("NOTHING.", t -> t.upon(each).refused("says(2, 0) = -4 says(2, 5) = -4"));
    }

    private static void people(Walk w) {
        w.promise(9, "int one(int chain, int kind, int grip, int weight, int a)");
        w.says("Somebody in a CHAIN: the number.", t -> t.bare()
            .upon(FIVE + "image() one(0, 0, 5, 5, 0) tell(5, 2, 7) back() ").due("one(0, 0, 6, 6, 0) = 5 oneOf(5, 3) = 0")
            .upon(FIVE)
            .due("one(1, 2, 11, 12, 7) = 5 status(0) = 6 line(1) = 1345 oneOf(5, 0) = 2 oneOf(5, 1) = 11 oneOf(5, 2) = 12 "
            + "oneOf(5, 4) = 7"));
        w.says("BAD;", t -> t.upon(FIVE).refused("one(2, 0, 5, 5, 0) = -2 one(0, 6, 5, 5, 0) = -2 one(0, 0, 21, 5, 0) = -2 "
            + "one(0, 0, 5, 21, 0) = -2 one(0, 0, 5, 5, 10) = -2")
            .refused("one(-1, 0, 5, 5, 0) = -2 one(0, -1, 5, 5, 0) = -2 one(0, 0, -1, 5, 0) = -2 one(0, 0, 5, -1, 0) = -2 "
            + "one(0, 0, 5, 5, -1) = -2"));
        w.says("FULL.", t -> t.upon(YardEdges.crowd(3, 5)).refused("one(0, 0, 5, 5, 0) = -6 one(2, 0, 5, 5, 0) = -2"));
        w.promise(10, "int tell(int one, int what, int v)");
        w.says("GRIP (what 0), WEIGHT (1), TIRED (2) of one becomes v: what it was.", t -> t.upon(SIX)
            .due("tell(3, 0, 11) = 9 oneOf(3, 1) = 11 tell(3, 1, 12) = 14 oneOf(3, 2) = 12 tell(3, 2, 13) = 0 oneOf(3, 3) = 13 "
                + "tell(3, 2, 1) = 13 oneOf(3, 1) = 11 oneOf(3, 2) = 12 oneOf(4, 1) = 8"));
        w.says("BAD.", t -> t.upon(SIX).refused("tell(6, 0, 1) = -2 tell(-1, 0, 1) = -2 tell(3, 3, 1) = -2 tell(3, -1, 1) = -2 "
            + "tell(3, 0, 21) = -2 tell(3, 0, -1) = -2"));
        w.promise(11, "int ask(int what, int v)");
        w.says("YARDS (what 0), SPREAD (1), WRISTS (2), BELL (3), TURN (4; 0, 1) becomes v: what it was.", t -> t.upon(SIX)
            .due("ask(0, 12) = 9 ask(1, 4) = 1 ask(2, 1) = 0 ask(3, 33) = 20 ask(4, 1) = 0 status(3) = 12 status(4) = 4 "
            + "status(5) = 1 "
                + "status(6) = 33 status(2) = 1 ask(0, 1) = 12 ask(4, 0) = 1"));
        w.says("BAD.", t -> t.upon(SIX).refused("ask(-1, 1) = -2 ask(5, 1) = -2 ask(0, 31) = -2 ask(1, 0) = -2 ask(2, 2) = -2 "
            + "ask(3, 100) = -2 ask(4, 2) = -2 ask(4, -1) = -2"));
    }

    private static void tape(Walk w) {
        w.promise(12, "int feed(int letter)");
        w.says("THE TAPE gets one byte (0 to 255) behind it: its size.", t -> t.upon(SIX)
            .due("feed 'yards' = 5 feed(51) = 6 status(8) = 6 yard() = 1 status(3) = 3 feed(0) = 1 feed(255) = 2"));
        w.says("BAD;", t -> t.upon(SIX + "feed 'yards' ").refused("feed(-1) = -2 feed(256) = -2"));
        w.says("FULL.", t -> t.upon("feed '" + " ".repeat(250) + "' ").refused("feed(97) = -6 feed(256) = -2"));
        w.promise(13, "int wipe()");
        w.says("THE TAPE is empty: its size ahead.", t -> t.upon(SIX + "feed 'yards 3;' ")
            .due("wipe() = 8 status(8) = 0 wipe() = 0 read 'bell 7' = 1 status(3) = 9 status(6) = 7"));
        w.promise(14, "int yard()");
        w.says("THE TAPE is a YARD: how many STATEMENTS;", t -> t.upon(SIX)
            .due("read 'bell 7' = 1 read 'yards 3;spread 2;tired 0 4;one 0 0 1 1 1' = 4 status(0) = 7"));
        w.says("-20 less the FAULT (that is refused, too: BAD).", t -> t.upon(SIX + "feed 'bell 7;oops' ")
            .refused("yard() = -27")
            .upon("feed '" + "bell 7;".repeat(35) + " ' ").refused("yard() = -266"));
        w.says("THE TAPE is empty then, either way.", t -> t.upon(SIX).due("read 'bell 7' = 1 status(8) = 0 wipe() = 0")
            .upon(SIX + "feed 'oops' yard() ").due("status(8) = 0 read 'bell 7' = 1"));
    }

    private static void whoIsWhere(Walk w) {
        w.promise(15, "int oneOf(int one, int what)");
        w.says("Of one: KIND (0), GRIP (1), WEIGHT (2), TIRED (3), a (4), CHAIN (5), PLACE (6), FORCE (7).", t -> t
            .upon(SIX + "tell(4, 2, 7) ")
            .same("oneOf(4, 0) = 5 oneOf(4, 1) = 8 oneOf(4, 2) = 8 oneOf(4, 3) = 7 oneOf(4, 4) = 0 oneOf(4, 5) = 1 "
            + "oneOf(4, 6) = 1 oneOf(4, 7) = 13")
            .same("oneOf(1, 0) = 3 oneOf(1, 1) = 6 oneOf(1, 2) = 7 oneOf(1, 4) = 2 oneOf(1, 5) = 0 oneOf(1, 7) = 10"));
        w.says("BAD.", t -> t.upon(SIX).refused("oneOf(6, 0) = -2 oneOf(-1, 0) = -2 oneOf(0, 8) = -2 oneOf(0, -1) = -2"));
        w.promise(16, "int chainOf(int chain, int place)");
        w.says("Who is at a PLACE of a CHAIN; how many there are (place NONE).", t -> t.upon(FIVE + "move(0, 2) ")
            .same("chainOf(0, 0) = 1 chainOf(0, 1) = 2 chainOf(0, 2) = 0 chainOf(0, NONE) = 3 chainOf(1, 1) = 4 "
            + "chainOf(1, NONE) = 2"));
        w.says("BAD.", t -> t.upon(FIVE)
            .refused("chainOf(2, 0) = -2 chainOf(-1, NONE) = -2 chainOf(0, 3) = -2 chainOf(1, 2) = -2 chainOf(0, -2) = -2"));
    }
}
