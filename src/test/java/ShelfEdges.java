/** Boundaries of promises 1 to 8: a new object, SHELVES and ROWS. */
final class ShelfEdges {
    static final int LEAST = Integer.MIN_VALUE;
    static final int MOST = Integer.MAX_VALUE;
    /** Two PEOPLE, one in each CHAIN. */
    private static final String TWO = "one(0, 0, 5, 5, 5) one(1, 3, 5, 5, 5) ";
    /** SHELF 0 a full ROW of ints, 1 one of three, 2 an empty one, 3 a ROW of longs, 4 somebody; 5 to 7 NOTHING. */
    private static final String SHELVES = TWO + "row(0, 2, 40) fill 1 2: 7 8 9 row(2, 2, 0) row(3, 3, 3) show(4, 1) ";

    static void all(Edges e) {
        newObject(e);
        row(e);
        set(e);
        lowestBits(e);
        copy(e);
        elementAndHolds(e);
        show(e);
        says(e);
    }

    private static void newObject(Edges e) {
        e.test(1, "Nobody; SHELVES hold NOTHING; THE TAPE is empty.", "a new object is empty", t -> t.bare()
            .same("status(0) = 0 chainOf(0, NONE) = 0 chainOf(1, NONE) = 0 status(10) = 0 status(8) = 0")
            .same("holds(0) = -1 holds(1) = -1 holds(2) = -1 holds(3) = -1")
            .same("holds(4) = -1 holds(5) = -1 holds(6) = -1 holds(7) = -1")
            .same("wipe() = 0 status(12) = 0 status(13) = 0 status(14) = 0 status(15) = 0 status(16) = 0"));
        e.test(1, "YARDS (0 to 30; 9 at first), SPREAD (1 to 10; 1 at first), WRISTS (0 or 1; 0 at first), "
            + "BELL (1 to 99; 20 at first). TURN: the CHAIN that calls (0 at first). RUNS: how many there were (0 at first).",
            "what is agreed on at first", t -> t.bare()
            .same("status(3) = 9 status(4) = 1 status(5) = 0 status(6) = 20 status(2) = 0 status(1) = 0"));
        e.test(1, "SEED (1 at first)", "SEED at first", t -> t.bare().same("status(9) = 1"));
        e.test(1, "An object is used for at most 512 calls after it has been made", "the 512th call still answers", t -> t.bare()
            .due("show(0, NONE) ".repeat(511 - 10) + "status(12) = 0")
            .due("wipe() = 0 ".repeat(501) + "over() = 1"));
    }

    private static void row(Edges e) {
        e.test(2, "SHELVES 0 to 7 hold NOTHING (at first), a ROW, or one of the PEOPLE.",
            "SHELF 0 and 7 are taken, -1 and 8 are BAD",
            t -> t.upon(SHELVES).due("row(0, 0, 1) = 1 holds(0) = 0").due("row(7, 0, 1) = 1 holds(7) = 0")
            .refused("row(-1, 0, 1) = -2 row(8, 0, 1) = -2 row(" + LEAST + ", 0, 1) = -2 row(" + MOST + ", 0, 1) = -2"));
        e.test(2, "A ROW has a SORT (0 bytes, 1 shorts, 2 ints, 3 longs, 4 booleans)", "SORT 0 and 4 are taken, -1 and 5 are BAD",
            t -> t.upon(SHELVES).due("row(5, 0, 1) = 1 holds(5) = 0").due("row(5, 4, 1) = 1 holds(5) = 4")
            .refused("row(5, -1, 1) = -2 row(5, 5, 1) = -2 row(5, " + LEAST + ", 1) = -2 row(5, " + MOST + ", 1) = -2")
            .refused("row(0, 5, 1) = -2 row(4, -1, 1) = -2"));
        e.test(2, "0 to 40 elements (0, or not so, at first)", "0 and 40 elements are taken, -1 and 41 are BAD",
            t -> t.upon(SHELVES).due("row(5, 3, 0) = 1 holds(5) = 3 status(10) = 6")
            .due("row(5, 3, 40) = 1 set(5, 39, 6) = 1 element(5, 39) = 6")
            .refused("row(5, 3, -1) = -2 row(5, 3, 41) = -2 row(5, 3, " + LEAST + ") = -2 row(5, 3, " + MOST + ") = -2")
            .refused("row(1, 3, 41) = -2 row(4, 0, -1) = -2"));
        e.test(2, "(0, or not so, at first)", "new elements are 0, also where others were", t -> t
            .upon("row(0, 3, 40) set(0, 0, 5) set(0, 1, 6) set(0, 39, 7) row(1, 4, 2) set(1, 1, 1) ")
            .due("row(0, 3, 40) = 1 element(0, 0) = 0 element(0, 1) = 0 element(0, 39) = 0")
            .due("row(0, 3, 1) = 1 row(0, 3, 40) = 1 element(0, 1) = 0 element(0, 39) = 0")
            .due("row(0, 3, 1) = 1 element(0, 0) = 0 element(0, 1) = 0 element(0, 39) = 0")
            .due("row(1, 4, 2) = 1 element(1, 1) = 0"));
        e.test(2, "SHELF s holds a new ROW: 1. BAD.", "a full SHELF holds the new ROW alone, and all eight can be full",
            t -> t.upon(SHELVES).due("row(4, 0, 2) = 1 holds(4) = 0 status(10) = 5")
                .due("row(0, 1, 2) = 1 holds(0) = 1 status(10) = 5")
            .due("row(5, 0, 0) = 1 row(6, 0, 0) = 1 row(7, 0, 0) = 1 status(10) = 8 row(7, 1, 40) = 1 status(10) = 8"));
    }

    private static void set(Edges e) {
        String sentence = "Element i of the ROW in SHELF s becomes v: 1. BAD SHELF; OTHER; NOTHING; BAD i.";
        e.test(3, sentence, "i 0 and the last are taken, -1 and the one behind are BAD", t -> t.upon(SHELVES)
            .due("set(1, 0, 5) = 1 element(1, 0) = 5 element(1, 1) = 8")
            .due("set(1, 2, 5) = 1 element(1, 2) = 5 element(1, 1) = 8")
            .due("set(0, 39, 5) = 1 element(0, 39) = 5")
            .refused("set(1, -1, 5) = -2 set(1, 3, 5) = -2 set(0, 40, 5) = -2 set(0, -1, 5) = -2")
            .refused("set(1, " + LEAST + ", 5) = -2 set(1, " + MOST + ", 5) = -2"));
        e.test(3, sentence, "of an empty ROW no i is taken", t -> t.upon(SHELVES)
            .refused("set(2, 0, 5) = -2 set(2, -1, 5) = -2 set(2, 1, 5) = -2"));
        e.test(3, sentence, "SHELF 0 and 7 are taken, -1 and 8 are BAD", t -> t.upon(SHELVES + "row(7, 0, 1) ")
            .due("set(0, 0, 5) = 1 element(0, 0) = 5").due("set(7, 0, 5) = 1 element(7, 0) = 5")
            .refused("set(-1, 0, 5) = -2 set(8, 0, 5) = -2 set(" + LEAST + ", 0, 5) = -2 set(" + MOST + ", 0, 5) = -2"));
        e.test(3, sentence, "which refusal comes first: BAD SHELF, OTHER, NOTHING, BAD i", t -> t.upon(SHELVES)
            .refused("set(8, 99, 5) = -2 set(4, 0, 5) = -3 set(4, -1, 5) = -3 set(4, 40, 5) = -3")
            .refused("set(5, 0, 5) = -4 set(5, -1, 5) = -4 set(5, 40, 5) = -4"));
    }

    private static void lowestBits(Edges e) {
        String sentence = "what is put in keeps its lowest bits (of booleans: whether it is not 0); told they are numbers "
            + "(1, 0).";
        e.test(3, sentence, "bytes: -128 to 127 stay, 128 and -129 wrap around", t -> t.upon("row(0, 0, 1) ")
            .due(put(127, 127)).due(put(128, -128)).due(put(-128, -128)).due(put(-129, 127)).due(put(255, -1)).due(put(256, 0))
            .due(put(Long.MAX_VALUE, -1)).due(put(Long.MIN_VALUE, 0)));
        e.test(3, sentence, "shorts: -32768 to 32767 stay, 32768 and -32769 wrap around", t -> t.upon("row(0, 1, 1) ")
            .due(put(32767, 32767)).due(put(32768, -32768)).due(put(-32768, -32768)).due(put(-32769, 32767))
            .due(put(65535, -1)).due(put(65536, 0)).due(put(Long.MAX_VALUE, -1)).due(put(Long.MIN_VALUE, 0)));
        e.test(3, sentence, "ints: the least and the most stay, those beyond wrap around", t -> t.upon("row(0, 2, 1) ")
            .due(put(MOST, MOST)).due(put(MOST + 1L, LEAST)).due(put(LEAST, LEAST)).due(put(LEAST - 1L, MOST))
            .due(put(4294967295L, -1)).due(put(4294967296L, 0)).due(put(Long.MAX_VALUE, -1)).due(put(Long.MIN_VALUE, 0)));
        e.test(3, sentence, "longs: the least and the most stay", t -> t.upon("row(0, 3, 1) ")
            .due(put(Long.MAX_VALUE, Long.MAX_VALUE)).due(put(Long.MIN_VALUE, Long.MIN_VALUE)).due(put(-1, -1)).due(put(0, 0)));
        e.test(3, sentence, "booleans: 0 is 0, all else is 1, whatever its lowest bits", t -> t.upon("row(0, 4, 1) set(0, 0, 1) ")
            .due(put(0, 0)).due(put(1, 1)).due(put(-1, 1)).due(put(2, 1)).due(put(256, 1)).due(put(4294967296L, 1))
            .due(put(Long.MIN_VALUE, 1)).due(put(Long.MAX_VALUE, 1)));
    }

    private static String put(long v, long becomes) {
        return "set(0, 0, " + v + ") = 1 element(0, 0) = " + becomes;
    }

    private static void copy(Edges e) {
        String come = "n elements of the ROW in SHELF p from place i on come to places j on of that in q (as they were): n.";
        String refusals = "BAD SHELVES; OTHER (also ROWS of two SORTS, if both hold something); NOTHING; BAD the others.";
        String five = SHELVES + "fill 5 2: 1 2 3 4 5 ";
        String all = "element(5, 0) = %d element(5, 1) = %d element(5, 2) = %d element(5, 3) = %d element(5, 4) = %d";
        e.test(4, come, "0 elements, also of empty ROWS and at the end", t -> t.upon(five)
            .same("copy(5, 1, 0, 0, 0) = 0 copy(2, 2, 0, 0, 0) = 0 copy(2, 5, 0, 5, 0) = 0 copy(5, 1, 5, 3, 0) = 0"));
        e.test(4, come, "all 40 elements", t -> t.upon(five + "row(6, 2, 40) set(6, 0, 4) set(6, 39, 3) ")
            .due("copy(6, 0, 0, 0, 40) = 40 element(0, 0) = 4 element(0, 39) = 3 element(0, 20) = 0 element(6, 39) = 3")
            .refused("copy(6, 0, 0, 0, 41) = -2 copy(6, 0, 1, 0, 40) = -2 copy(6, 0, 0, 1, 40) = -2")
            .due("copy(6, 0, 39, 39, 1) = 1 element(0, 39) = 3 element(0, 0) = 0"));
        e.test(4, come, "upon themselves they come as they were", t -> t.upon(five)
            .due("copy(5, 5, 0, 1, 4) = 4 " + String.format(all, 1, 1, 2, 3, 4))
            .due("copy(5, 5, 1, 0, 4) = 4 " + String.format(all, 2, 3, 4, 5, 5))
            .due("copy(5, 5, 0, 2, 3) = 3 " + String.format(all, 1, 2, 1, 2, 3))
            .same("copy(5, 5, 0, 0, 5) = 5"));
        e.test(4, refusals, "SHELVES 0 and 7 are taken, -1 and 8 are BAD", t -> t.upon(five + "row(7, 2, 40) set(7, 0, 9) ")
            .due("copy(7, 0, 0, 0, 1) = 1 element(0, 0) = 9").due("copy(0, 7, 0, 0, 1) = 1 element(7, 0) = 0")
            .refused("copy(-1, 0, 0, 0, 1) = -2 copy(8, 0, 0, 0, 1) = -2 copy(0, -1, 0, 0, 1) = -2 copy(0, 8, 0, 0, 1) = -2")
            .refused("copy(" + LEAST + ", 0, 0, 0, 1) = -2 copy(0, " + MOST + ", 0, 0, 1) = -2"));
        e.test(4, refusals, "the last that can be copied is taken, one more is BAD, of i, j and n", t -> t.upon(five)
            .due("copy(5, 1, 2, 0, 3) = 3 element(1, 0) = 3 element(1, 2) = 5")
            .due("copy(5, 1, 0, 2, 1) = 1 element(1, 2) = 1 element(1, 1) = 8")
            .refused("copy(5, 1, 3, 0, 3) = -2 copy(5, 1, 0, 1, 3) = -2 copy(5, 1, 0, 0, 4) = -2 copy(1, 5, 0, 0, 4) = -2")
            .refused("copy(5, 1, 6, 0, 0) = -2 copy(5, 1, 0, 4, 0) = -2 copy(5, 1, 5, 0, 1) = -2 copy(5, 1, 0, 3, 1) = -2")
            .refused("copy(2, 5, 0, 0, 1) = -2 copy(5, 2, 0, 0, 1) = -2"));
        e.test(4, refusals, "i, j and n below 0 are BAD", t -> t.upon(five)
            .refused("copy(5, 1, -1, 0, 1) = -2 copy(5, 1, 0, -1, 1) = -2 copy(5, 1, 0, 0, -1) = -2 copy(5, 1, 1, 1, -1) = -2")
            .refused("copy(5, 1, -1, 0, 0) = -2 copy(5, 1, 0, -1, 0) = -2 copy(5, 1, 0, 0, " + LEAST + ") = -2"));
        e.test(4, refusals, "i, j and n whose sum would wrap around are BAD", t -> t.upon(five)
            .refused("copy(5, 1, " + MOST + ", 0, 1) = -2 copy(5, 1, 0, " + MOST + ", 1) = -2 "
                + "copy(5, 1, 1, 0, " + MOST + ") = -2")
            .refused("copy(5, 1, " + LEAST + ", 0, " + LEAST + ") = -2 copy(5, 1, 0, " + MOST + ", " + MOST + ") = -2")
            .refused("copy(5, 1, " + MOST + ", " + MOST + ", 2) = -2"));
        e.test(4, refusals, "OTHER: somebody in either, ROWS of two SORTS", t -> t.upon(five)
            .refused("copy(4, 1, 0, 0, 1) = -3 copy(1, 4, 0, 0, 1) = -3 copy(4, 4, 0, 0, 0) = -3")
            .refused("copy(1, 3, 0, 0, 1) = -3 copy(3, 1, 0, 0, 1) = -3 copy(2, 3, 0, 0, 0) = -3"));
        e.test(4, refusals, "which refusal comes first: BAD SHELVES, OTHER, NOTHING, BAD the others", t -> t.upon(five)
            .refused("copy(8, 4, 0, 0, 1) = -2 copy(4, 8, 0, 0, 1) = -2 copy(6, -1, 0, 0, 1) = -2 copy(-1, 6, 0, 0, 1) = -2")
            .refused("copy(4, 6, 0, 0, 1) = -3 copy(6, 4, 0, 0, 1) = -3 copy(4, 1, -1, 0, 1) = -3 copy(1, 3, 0, 0, 99) = -3")
            .refused("copy(6, 1, 0, 0, 1) = -4 copy(1, 6, 0, 0, 1) = -4 copy(6, 7, 0, 0, 1) = -4 copy(6, 6, 0, 0, 0) = -4")
            .refused("copy(6, 1, -1, 0, 1) = -4 copy(1, 6, 0, 0, 99) = -4"));
    }

    private static void elementAndHolds(Edges e) {
        String element = "Element i of the ROW; 0: none, no ROW (nothing is refused).";
        e.test(5, element, "i 0 and the last have an element, -1 and the one behind none: 0", t -> t
            .upon("fill 0 3: 7 8 9 row(1, 3, 40) set(1, 39, 5) row(2, 3, 0) ")
            .same("element(0, 0) = 7 element(0, 2) = 9 element(0, -1) = 0 element(0, 3) = 0 element(1, 39) = 5 "
                + "element(1, 40) = 0")
            .same("element(2, 0) = 0 element(2, -1) = 0 element(0, " + LEAST + ") = 0 element(0, " + MOST + ") = 0"));
        e.test(5, element, "elements of a longer ROW that was there are none: 0", t -> t
            .upon("fill 0 3: 7 8 9 row(0, 3, 1) ").same("element(0, 1) = 0 element(0, 2) = 0"));
        e.test(5, element, "no SHELF, NOTHING, somebody: 0", t -> t.upon("one(0, 0, 5, 5, 5) fill 0 3: 7 fill 7 3: 8 show(0, 0) ")
            .same("element(-1, 0) = 0 element(8, 0) = 0 element(" + LEAST + ", 0) = 0 element(" + MOST + ", 0) = 0")
            .same("element(1, 0) = 0 element(0, 0) = 0 element(7, 0) = 8"));
        String holds = "What SHELF s holds: NONE NOTHING, no SHELF; 0 to 4 a ROW by its SORT; 10 and the number of somebody.";
        e.test(6, holds, "SHELF 0 and 7 are told, of -1 and 8 NONE", t -> t.upon("row(0, 0, 1) row(7, 4, 0) ")
            .same("holds(0) = 0 holds(7) = 4 holds(-1) = -1 holds(8) = -1 holds(" + LEAST + ") = -1 holds(" + MOST + ") = -1"));
        e.test(6, holds, "NOTHING, SORTS 0 to 4, the first and the eighth of the PEOPLE", t -> t
            .upon("one(0, 0, 5, 5, 5) ".repeat(8) + "row(0, 0, 0) row(1, 1, 1) row(2, 2, 2) row(3, 3, 3) row(4, 4, 4) "
                + "show(5, 0) show(6, 7) ")
            .same("holds(0) = 0 holds(1) = 1 holds(2) = 2 holds(3) = 3 holds(4) = 4 holds(5) = 10 holds(6) = 17 holds(7) = -1"));
    }

    private static void show(Edges e) {
        String sentence = "SHELF s holds somebody, or NOTHING (one NONE): 1. BAD.";
        e.test(7, sentence, "the first and the last of the PEOPLE are taken, -2 and the number behind are BAD", t -> t
            .upon(SHELVES)
            .due("show(5, 0) = 1 holds(5) = 10").due("show(5, 1) = 1 holds(5) = 11").due("show(0, 1) = 1 holds(0) = 11")
            .refused("show(5, -2) = -2 show(5, 2) = -2 show(5, 8) = -2 show(5, " + LEAST + ") = -2 show(5, " + MOST + ") = -2")
            .refused("show(0, 2) = -2 show(4, 2) = -2"));
        e.test(7, sentence, "all eight PEOPLE are taken, the ninth is BAD", t -> t.upon("one(1, 5, 5, 5, 5) ".repeat(8))
            .due("show(0, 7) = 1 holds(0) = 17").refused("show(0, 8) = -2"));
        e.test(7, sentence, "with nobody NONE alone is taken", t -> t.upon("row(0, 2, 2) ")
            .due("show(0, NONE) = 1 holds(0) = -1 status(10) = 0").refused("show(0, 0) = -2 show(1, 0) = -2"));
        e.test(7, sentence, "NONE of a ROW, of somebody, of NOTHING", t -> t.upon(SHELVES)
            .due("show(0, NONE) = 1 holds(0) = -1 element(0, 0) = 0").due("show(4, NONE) = 1 holds(4) = -1")
            .same("show(5, NONE) = 1"));
        e.test(7, sentence, "SHELF 0 and 7 are taken, -1 and 8 are BAD", t -> t.upon(SHELVES)
            .due("show(0, 0) = 1 holds(0) = 10").due("show(7, 0) = 1 holds(7) = 10")
            .refused("show(-1, 0) = -2 show(8, 0) = -2 show(-1, NONE) = -2 show(8, NONE) = -2 show(" + LEAST + ", 0) = -2"));
    }

    private static void says(Edges e) {
        String says = "What the one in SHELF s, taken for one of a KIND, says: HAND the CHAIN; FIRM the HOLD beside nobody; "
            + "WEAK the HOLD beside nobody; SISTER how many other SISTERS are in the same CHAIN; HEAVY, SLY the FORCE.";
        String refusals = "BAD SHELF, KIND; OTHER (also if they're of no such KIND nor of one under it); NOTHING.";
        e.test(8, says, "SISTERS: no other and seven others", t -> t.upon("one(1, 3, 5, 5, 5) show(0, 0) ").same("says(0, 3) = 0")
            .upon("one(1, 3, 5, 5, 5) ".repeat(8) + "show(0, 7) ").same("says(0, 3) = 7")
            .upon("one(1, 3, 5, 5, 5) one(0, 3, 5, 5, 5) one(1, 1, 5, 5, 5) show(0, 0) ").same("says(0, 3) = 0"));
        e.test(8, says, "HOLD beside nobody: 0 at least of what isn't TIRED, no 5 more", t -> t
            .upon("one(0, 3, 4, 5, 9) one(0, 3, 4, 5, 9) one(0, 2, 1, 5, 9) one(0, 5, 20, 5, 9) one(0, 1, 0, 0, 0) "
                + "show(0, 0) show(1, 1) show(2, 2) show(3, 3) show(4, 4) tell(1, 2, 20) ")
            .same("says(0, 1) = 13 says(1, 1) = 9 says(2, 2) = 0 says(3, 2) = 10 says(4, 1) = 0"));
        e.test(8, says, "FORCE: the least and the most, CHAIN 0 and 1", t -> t
            .upon("ask(0, 30) one(0, 4, 0, 20, 9) one(1, 5, 0, 20, 9) show(0, 0) show(7, 1) ")
            .same("says(0, 4) = 39 says(7, 5) = 32 says(0, 0) = 0 says(7, 0) = 1")
            .upon("ask(0, 0) one(0, 4, 0, 0, 0) one(1, 5, 0, 0, 9) show(0, 0) show(7, 1) ")
            .same("says(0, 4) = 0 says(7, 5) = 2"));
        String kinds = "one(0, 0, 4, 5, 3) one(0, 1, 4, 5, 3) one(0, 2, 4, 5, 3) one(0, 3, 4, 5, 3) one(0, 4, 4, 5, 3) "
            + "one(0, 5, 4, 5, 3) "
            + "show(0, 0) show(1, 1) show(2, 2) show(3, 3) show(4, 4) show(5, 5) row(6, 0, 1) ";
        e.test(8, "each of a KIND: 0 HAND; 1 FIRM, 2 WEAK, 4 HEAVY, each under HAND; 3 SISTER, under FIRM; 5 SLY, under WEAK;",
            "taken for each KIND that they are or are under, OTHER for all else", t -> t.upon(kinds)
            .same("says(0, 0) = 0 says(1, 0) = 0 says(1, 1) = 7 says(2, 0) = 0 says(2, 2) = 2 says(3, 0) = 0 says(3, 1) = 7 "
                + "says(3, 3) = 0")
            .same("says(4, 0) = 0 says(4, 4) = 11 says(5, 0) = 0 says(5, 2) = 2 says(5, 5) = 10")
            .refused("says(0, 1) = -3 says(0, 2) = -3 says(0, 3) = -3 says(0, 4) = -3 says(0, 5) = -3")
            .refused("says(1, 2) = -3 says(1, 3) = -3 says(1, 4) = -3 says(1, 5) = -3")
            .refused("says(2, 1) = -3 says(2, 3) = -3 says(2, 4) = -3 says(2, 5) = -3")
            .refused("says(3, 2) = -3 says(3, 4) = -3 says(3, 5) = -3")
            .refused("says(4, 1) = -3 says(4, 2) = -3 says(4, 3) = -3 says(4, 5) = -3")
            .refused("says(5, 1) = -3 says(5, 3) = -3 says(5, 4) = -3"));
        e.test(8, refusals, "SHELF 0 and 7 are taken, -1 and 8 are BAD", t -> t.upon(kinds + "show(7, 5) ")
            .same("says(0, 0) = 0 says(7, 0) = 0")
            .refused("says(-1, 0) = -2 says(8, 0) = -2 says(" + LEAST + ", 0) = -2 says(" + MOST + ", 0) = -2"));
        e.test(8, refusals, "KIND 0 and 5 are taken, -1 and 6 are BAD", t -> t.upon(kinds).same("says(5, 0) = 0 says(5, 5) = 10")
            .refused("says(5, -1) = -2 says(5, 6) = -2 says(5, " + LEAST + ") = -2 says(5, " + MOST + ") = -2"));
        e.test(8, refusals, "which refusal comes first: BAD SHELF, KIND, then OTHER or NOTHING", t -> t.upon(kinds)
            .refused("says(8, 9) = -2 says(6, 6) = -2 says(7, 6) = -2 says(7, -1) = -2 says(0, 6) = -2")
            .refused("says(6, 0) = -3 says(6, 5) = -3 says(7, 0) = -4 says(7, 5) = -4"));
    }
}
