/** Boundaries of promises 41 to 43: BOOKS that are judged, thought through and come to pass. */
final class BookEdges {
    private static final int LEAST = Integer.MIN_VALUE;
    private static final int MOST = Integer.MAX_VALUE;
    private static final String SIX = YardEdges.SIX;
    /** 3 goes over and back again, HELD 40 times. */
    private static final String FORTY = ChoiceEdges.STRONG + "ask(3, 99) fill 0 2:" + " 3000".repeat(40) + " ";
    /** SHELF 0 a BOOK whose third RUN is WRONG, 1 an empty ROW, 2 somebody, 3 NOTHING. */
    private static final String SHELVES = SIX + "fill 0 2: 5000 1000 3000 row(1, 2, 0) show(2, 0) ";

    static void all(Edges e) {
        runs(e);
        judge(e);
        behind(e);
        booked(e);
    }

    private static void wrong(Edge t, String yard, int sort, int want, String book) {
        int n = book.strip().split(" ").length;
        t.upon(yard + "fill 0 " + sort + ":" + book + " ").same("judge(0, " + n + ") = " + want);
    }

    private static void runs(Edges e) {
        String sentence = "A BOOK: a ROW of RUNS: each 1000 times the runner, 100 times the JOINT, and 0: HELD, 1: "
            + "TORN, left, 2: TORN, right: "
            + "WRONG: the first that can't be (also by its ODDS); NONE.";
        e.test(41, sentence, "the runner: the first and the last that is called can be, the others and no such one can't", t -> {
            wrong(t, SIX, 3, -1, " 3100");
            wrong(t, SIX, 3, -1, " 5100");
            wrong(t, SIX, 3, 0, " 2100");
            wrong(t, SIX, 3, 0, " 0");
            wrong(t, SIX, 3, 0, " 6000");
            wrong(t, SIX, 3, 0, " 7000");
            wrong(t, SIX, 3, 0, " 8000");
            wrong(t, SIX, 3, 0, " -1");
            wrong(t, SIX, 3, 0, " -3100");
            wrong(t, YardEdges.crowd(2, 6), 3, -1, " 7000");
            wrong(t, YardEdges.crowd(2, 6), 3, 0, " 8000");
            wrong(t, SIX + "ask(4, 1) ", 3, -1, " 0");
            wrong(t, SIX + "ask(4, 1) ", 3, -1, " 1000");
            wrong(t, SIX + "ask(4, 1) ", 3, 0, " 5000");
            wrong(t, SIX + "ask(4, 1) ", 3, 0, " 6000");
            wrong(t, SIX + "ask(4, 1) ", 3, 0, " 7000");
            wrong(t, SIX + "ask(4, 1) ", 3, 0, " 8000");
        });
        e.test(41, sentence, "the JOINT: 0 and the last can be, the one behind can't", t -> {
            wrong(t, SIX, 3, -1, " 5000");
            wrong(t, SIX, 3, -1, " 5100");
            wrong(t, SIX, 3, 0, " 5200");
            wrong(t, SIX, 3, 0, " 5900");
            wrong(t, YardEdges.crowd(6, 2), 3, -1, " 7400");
            wrong(t, YardEdges.crowd(6, 2), 3, 0, " 7500");
        });
        e.test(41, sentence, "its end: 0, 1 and 2 can be, 3 to 99 can't", t -> {
            wrong(t, TapeEdges.wall(10, 10), 3, -1, " 2000");
            wrong(t, TapeEdges.wall(10, 10), 3, -1, " 2001");
            wrong(t, TapeEdges.wall(10, 10), 3, -1, " 2002");
            wrong(t, TapeEdges.wall(10, 10), 3, 0, " 2003");
            wrong(t, TapeEdges.wall(10, 10), 3, 0, " 2010");
            wrong(t, TapeEdges.wall(10, 10), 3, 0, " 2099");
            wrong(t, TapeEdges.wall(10, 10), 3, 0, " 1999");
        });
        e.test(41, sentence, "ODDS 0 can't be TORN, the least above 0 can; 1,000,000 can't be HELD, the most below can", t -> {
            wrong(t, TapeEdges.wall(1, 10), 3, 0, " 2001");
            wrong(t, TapeEdges.wall(1, 10), 3, 0, " 2002");
            wrong(t, TapeEdges.wall(1, 10), 3, -1, " 2000");
            wrong(t, TapeEdges.wall(2, 10), 3, -1, " 2001");
            wrong(t, TapeEdges.wall(10, 10), 3, -1, " 2000");
            wrong(t, TapeEdges.wall(11, 10), 3, 0, " 2000");
            wrong(t, TapeEdges.wall(11, 10), 3, -1, " 2002");
            wrong(t, TapeEdges.wall(10, 1), 3, 0, " 2001");
            wrong(t, TapeEdges.wall(10, 1), 3, -1, " 2000");
            wrong(t, TapeEdges.wall(11, 1), 3, 0, " 2000");
        });
        e.test(41, sentence, "numbers that don't fit an int, and the least and the most", t -> {
            wrong(t, SIX, 3, 0, " 4294972396");
            wrong(t, SIX, 3, 0, " -4294962196");
            wrong(t, SIX, 3, 0, " " + Long.MIN_VALUE);
            wrong(t, SIX, 3, 0, " " + Long.MAX_VALUE);
            wrong(t, SIX, 2, 0, " " + LEAST);
            wrong(t, SIX, 2, 0, " " + MOST);
        });
        e.test(41, sentence, "numbers below 0, where 0 could run and tear", t -> {
            String yard = "one(0, 0, 5, 20, 0) " + YardEdges.crowd(1, 2) + "ask(4, 1) ";
            wrong(t, yard, 3, -1, " 1");
            wrong(t, yard, 3, -1, " 2");
            wrong(t, yard, 3, 0, " -1");
            wrong(t, yard, 3, 0, " -2");
            wrong(t, yard, 3, 0, " -99");
        });
        e.test(41, sentence, "of every SORT: what it holds is the RUN", t -> {
            wrong(t, SIX + "ask(4, 1) ", 0, -1, " 101");
            wrong(t, SIX + "ask(4, 1) ", 0, 0, " 127");
            wrong(t, SIX + "ask(4, 1) ", 0, 0, " -128");
            wrong(t, YardEdges.crowd(2, 6), 1, -1, " 7000");
            wrong(t, YardEdges.crowd(2, 6), 2, -1, " 7000");
            wrong(t, SIX + "ask(4, 1) ", 4, -1, " 0");
            wrong(t, SIX + "ask(4, 1) ", 4, 0, " 1");
        });
        e.test(41, sentence, "what is OVER can't be: by BELL, by a CHAIN of one", t -> {
            wrong(t, SIX + "ask(3, 2) ", 3, -1, " 5000 1000");
            wrong(t, SIX + "ask(3, 1) ", 3, 1, " 5000 1000");
            wrong(t, YardEdges.FIVE, 3, -1, " 4000");
            wrong(t, YardEdges.FIVE, 3, 1, " 4000 0");
            wrong(t, JointEdges.ALONE, 3, 0, " 1000");
            wrong(t, JointEdges.NOBODY_ELSE, 3, 0, " 2000");
            wrong(t, "", 3, 0, " 0");
        });
        e.test(41, sentence, "WRONG is the first of several, and TURNS change between", t -> {
            wrong(t, SIX, 3, 0, " 9999 9999");
            wrong(t, SIX, 3, 2, " 5000 5000 9999 9999");
            wrong(t, SIX, 3, 1, " 5000 3000");
            wrong(t, SIX, 3, -1, " 5000 1000");
        });
    }

    private static void judge(Edges e) {
        String own = "A BOOK of the first n elements (0 to 40) of the ROW in SHELF s: WRONG; NONE. BAD SHELF, n; OTHER; "
            + "NOTHING; BAD: fewer elements.";
        e.test(41, own, "n 0 is NONE: of an empty ROW, of a WRONG one, though it is OVER", t -> t.upon(SHELVES)
            .same("judge(1, 0) = -1 judge(0, 0) = -1")
            .upon("row(0, 4, 0) ").same("judge(0, 0) = -1")
            .upon(JointEdges.RUNG + "fill 0 3: 9999 ")
            .same("judge(0, 0) = -1 judge(0, 1) = 0"));
        e.test(41, own, "n 40 is taken, -1 and 41 are BAD", t -> t.upon(FORTY).same("judge(0, 40) = -1 judge(0, 39) = -1")
            .refused("judge(0, -1) = -2 judge(0, 41) = -2 judge(0, " + LEAST + ") = -2 judge(0, " + MOST + ") = -2"));
        e.test(41, own, "the first and the last of 40 are WRONG, and what is behind n isn't looked at", t -> t
            .upon(FORTY + "set(0, 0, 3001) ").same("judge(0, 40) = 0 judge(0, 1) = 0 judge(0, 0) = -1")
            .upon(FORTY + "set(0, 39, 3001) ").same("judge(0, 40) = 39 judge(0, 39) = -1"));
        e.test(41, own, "as many elements as there are, and one more: BAD", t -> t.upon(SHELVES)
            .same("judge(0, 3) = 2 judge(0, 2) = -1").refused("judge(0, 4) = -2 judge(0, 40) = -2 judge(1, 1) = -2"));
        refusals(e, 41, own, "judge(%d, %d)");
        e.test(41, own, "SHELF 0 and 7 are taken", t -> t.upon(SIX + "fill 0 2: 5000 fill 7 2: 5001 ")
            .same("judge(0, 1) = -1 judge(7, 1) = 0"));
    }

    /** What judge, behind and booked share. */
    private static void refusals(Edges e, int promise, String own, String call) {
        e.test(promise, own, "SHELF -1 and 8 are BAD", t -> t.upon(SHELVES)
            .refused(said(call, -1, 0, -2) + said(call, 8, 0, -2) + said(call, LEAST, 0, -2) + said(call, MOST, 0, -2)));
        e.test(promise, own, "which refusal comes first: BAD SHELF and n, OTHER, NOTHING, BAD fewer elements", t -> t
            .upon(SHELVES).refused(said(call, 2, 41, -2) + said(call, 2, -1, -2) + said(call, 3, 41, -2) + said(call, 3, -1, -2))
            .refused(said(call, 2, 0, -3) + said(call, 2, 40, -3) + said(call, 3, 0, -4) + said(call, 3, 40, -4) + said(call, 0, 4, -2)));
    }

    private static String said(String call, int s, int n, int want) {
        return String.format(call, s, n) + " = " + want + " ";
    }

    private static void behind(Edges e) {
        String own = "Behind it: how many CHAIN 0 has (what 0), CHAIN 1 (1), WON (2; NONE). BAD, also what; OTHER; NOTHING; "
            + "BAD; STUCK: it is WRONG. (NONE isn't refused.)";
        e.test(42, own, "what 0 and 2 are told, -1 and 3 are BAD", t -> t.upon(SHELVES)
            .same("behind(0, 1, 0) = 4 behind(0, 1, 1) = 2 behind(0, 1, 2) = -1")
            .refused("behind(0, 1, -1) = -2 behind(0, 1, 3) = -2 behind(0, 1, " + LEAST + ") = -2 "
                + "behind(0, 1, " + MOST + ") = -2"));
        e.test(42, own, "n 0 and 40 are taken, -1 and 41 are BAD", t -> t.upon(FORTY)
            .same("behind(0, 0, 0) = 3 behind(0, 40, 0) = 3 behind(0, 39, 0) = 4 behind(0, 39, 1) = 2 behind(0, 40, 2) = -1")
            .refused("behind(0, -1, 0) = -2 behind(0, 41, 0) = -2"));
        e.test(42, own, "with nobody, with a CHAIN of one, and by BELL: WON; NONE isn't refused", t -> t.upon("row(0, 0, 0) ")
            .same("behind(0, 0, 0) = 0 behind(0, 0, 1) = 0 behind(0, 0, 2) = -1")
            .upon(YardEdges.FIVE + "fill 0 2: 4000 ").same("behind(0, 1, 2) = 0 behind(0, 0, 2) = -1")
            .upon(SHELVES + "ask(3, 1) ").same("behind(0, 1, 2) = 0")
            .upon(TapeEdges.wall(11, 1) + "fill 0 2: 2001 ").same("behind(0, 1, 0) = 1 behind(0, 1, 1) = 3 behind(0, 1, 2) = 1"));
        e.test(42, own, "the last n that isn't WRONG is taken, one more is STUCK", t -> t.upon(SHELVES)
            .same("behind(0, 2, 0) = 3").refused("behind(0, 3, 0) = -5 behind(0, 3, 1) = -5 behind(0, 3, 2) = -5")
            .upon(FORTY + "set(0, 39, 3001) ").same("behind(0, 39, 0) = 4").refused("behind(0, 40, 0) = -5"));
        refusals(e, 42, own, "behind(%d, %d, 0)");
        e.test(42, own, "which refusal comes first: BAD what, and fewer elements ahead of STUCK", t -> t.upon(SHELVES)
            .refused("behind(2, 0, 3) = -2 behind(3, 0, -1) = -2 behind(0, 3, 3) = -2 behind(0, 4, 0) = -2 "
                + "behind(2, 41, 0) = -2"));
    }

    private static void booked(Edges e) {
        String own = "It comes to pass in truth: RUNS. BAD; OTHER; NOTHING; BAD; STUCK likewise.";
        e.test(43, own, "n 0 changes nothing, also of an empty ROW and though it is OVER", t -> t.upon(SHELVES)
            .same("booked(0, 0) = 0 booked(1, 0) = 0")
            .upon(JointEdges.RUNG + "row(0, 3, 1) ").same("booked(0, 0) = 1")
            .upon("row(0, 0, 0) ").same("booked(0, 0) = 0"));
        e.test(43, own, "n 40 is taken, -1 and 41 are BAD; TIRED stays 20 at most", t -> t.upon(FORTY)
            .due("booked(0, 40) = 40 status(1) = 40 status(2) = 0 status(7) = 80 oneOf(0, 3) = 20 oneOf(4, 3) = 20 "
                + "oneOf(3, 3) = 0 status(9) = 1 line(0) = 1012 line(1) = 1435")
            .due("booked(0, 40) = 40 booked(0, 40) = 80 status(7) = 80 booked(0, 19) = 99 over() = 1")
            .refused("booked(0, -1) = -2 booked(0, 41) = -2"));
        e.test(43, own, "the last n that isn't WRONG is taken, one more is STUCK and nothing of it comes to pass", t -> t
            .upon(SHELVES).due("booked(0, 2) = 2 line(0) = 1052 line(1) = 1314").refused("booked(0, 3) = -5")
            .upon(FORTY + "set(0, 39, 3001) ").refused("booked(0, 40) = -5").due("booked(0, 39) = 39"));
        e.test(43, own, "1 takes the left one, 2 the right one", t -> t.upon(SIX + "fill 0 2: 3001 fill 1 2: 3002 ")
            .due("booked(0, 1) = 1 line(0) = 112 line(1) = 14530").due("booked(1, 1) = 1 line(0) = 102 line(1) = 14531"));
        refusals(e, 43, own, "booked(%d, %d)");
        e.test(43, own, "fewer elements are BAD ahead of STUCK", t -> t.upon(SHELVES)
            .refused("booked(0, 4) = -2 booked(0, 40) = -2 booked(1, 1) = -2"));
    }
}
