/** Promises 35 to 43: leads, the GAME, SISTERS TOGETHER, SWAPS, who COULD, and BOOKS. */
final class AheadWalk {
    private static final String SIX = YardEdges.SIX;
    /** GRIPS 6 and 6: STRENGTH 10 against FORCE 14, 8 and 14. */
    private static final String WALL = ThoughtWalk.sides("6 6", "14 8 14");
    /** SHELF 0 a BOOK whose third RUN is WRONG, 1 somebody, 2 NOTHING. */
    private static final String BOOK = SIX + "fill 0 2: 5000 1000 5999 show(1, 0) ";

    static void all(Walk w) {
        leads(w);
        games(w);
        standing(w);
        judged(w);
        cameToPass(w);
    }

    private static void leads(Walk w) {
        w.promise(35, "int leads(int rule)");
        String strong = "ask(0, 0) " + "one(0, 0, 20, 0, 0) ".repeat(3) + "one(1, 0, 20, 0, 0) ".repeat(4);
        // FORCE 10 against 10, 10 and then 9: 4 and 2, 3 and 3, 2 and 4.
        String torn = "ask(0, 30) " + "one(0, 0, 6, 0, 0) ".repeat(3) + "one(1, 0, 6, 0, 0) ".repeat(3);
        w.says("How often, behind RUNS of a PLAY by a rule (all of them, one after the other), the CHAIN that has more "
            + "isn't the one that had more behind the last RUN of it behind which one had more (the first such doesn't "
            + "count).", t -> t
            .upon(strong + "ask(3, 1) ").same("leads(0) = 0 leads(1) = 0")
            .upon(strong + "ask(3, 2) ").same("leads(0) = 1 leads(1) = 1")
            .upon(strong + "ask(3, 7) ").same("leads(0) = 6 leads(1) = 6")
            .upon(ChoiceEdges.STRONG).same("leads(0) = 0 leads(1) = 0")
            .upon(torn + "ask(3, 2) ").same("leads(0) = 0").upon(torn + "ask(3, 3) ").same("leads(0) = 1 leads(1) = 1")
            .same("play(0, 2) = 2").due("leads(0) = 1 leads(1) = 1 leads(0) = 1")
            // Behind the one RUN CHAIN 1 has more, 3 and 4: the first such.
            .upon("ask(0, 0) " + "one(0, 0, 20, 0, 0) ".repeat(2) + "one(1, 0, 20, 0, 0) ".repeat(5) + "ask(3, 1) ")
            .same("leads(0) = 0"));
        w.says("BAD.", t -> t.upon(SIX).refused("leads(2) = -2 leads(-1) = -2"));
    }

    private static void games(Walk w) {
        w.promise(36, "int game(int d)");
        w.says("GAME: the difference.", t -> t.upon(WALL).same("game(0) = -1 game(1) = 1 game(2) = -1")
            .upon(WALL + "ask(3, 1) ").same("game(1) = 1 game(2) = 1"));
        w.says("-1002;", t -> t.upon(WALL).refused("game(-1) = -1002 game(3) = -1002"));
        w.says("-1005: OVER (of d 0, too).", t -> t.refused("game(0) = -1005 game(1) = -1005 game(3) = -1002")
            .upon(JointEdges.RUNG).refused("game(0) = -1005 game(2) = -1005"));
        w.promise(37, "int first(int d)");
        w.says("Who is called first in it (d 1, 2).", t -> t.upon(WALL).same("first(1) = 3 first(2) = 3"));
        w.says("BAD;", t -> t.upon(WALL).refused("first(0) = -2 first(3) = -2 first(-1) = -2"));
        w.says("STUCK: OVER.", t -> t.refused("first(1) = -5 first(2) = -5 first(0) = -2")
            .upon(JointEdges.RUNG).refused("first(1) = -5"));
    }

    private static void standing(Walk w) {
        String four = ThoughtWalk.sides("1 5 9 3", "0");
        w.promise(38, "int together(int chain)");
        w.says("TOGETHER.", t -> t.upon(SIX).same("together(0) = 4 together(1) = 0"));
        w.says("BAD;", t -> t.upon(SIX).refused("together(2) = -2 together(-1) = -2"));
        w.says("FULL: more than 7.", t -> t.upon(YardEdges.crowd(8, 0)).refused("together(0) = -6").same("together(1) = 0")
            .upon(YardEdges.crowd(7, 0)).same("together(0) = 0"));
        w.promise(39, "int swap(int chain, int what)");
        w.says("SWAP: the first PLACE (what 0), by how much more (1).", t -> t.upon(four)
            .same("swap(0, 0) = 1 swap(0, 1) = 2"));
        w.says("-1002;", t -> t.upon(four)
            .refused("swap(2, 0) = -1002 swap(-1, 0) = -1002 swap(0, 2) = -1002 swap(1, -1) = -1002"));
        w.says("-1005: fewer than 2.", t -> t.upon(four).refused("swap(1, 0) = -1005 swap(1, 1) = -1005")
            .upon(YardEdges.crowd(2, 0))
            .same("swap(0, 0) = 0 swap(0, 1) = 0"));
        w.promise(40, "int could(int joint, int sure)");
        w.says("COULD (sure 0), MUST (1; bits).", t -> t.upon(SIX + "ask(1, 4) ")
            .same("could(0, 0) = 24 could(0, 1) = 8 could(1, 0) = 8 could(1, 1) = 0")
            // FORCE 12, 10 and 9 against 14 and 2.
            .upon(SIX + "ask(1, 4) ask(4, 1) ").same("could(0, 0) = 1 could(0, 1) = 0 could(1, 1) = 7"));
        w.says("BAD: also no such JOINT of the CHAIN that calls.", t -> t.upon(SIX)
            .refused("could(2, 0) = -2 could(-1, 0) = -2 could(0, 2) = -2 could(0, -1) = -2"));
    }

    private static void judged(Walk w) {
        w.promise(41, "int judge(int s, int n)");
        w.says("A BOOK of the first n elements (0 to 40) of the ROW in SHELF s: WRONG; NONE.", t -> t.upon(BOOK)
            .same("judge(0, 0) = -1 judge(0, 1) = -1 judge(0, 2) = -1 judge(0, 3) = 2")
            .upon(BOOK + "row(0, 2, 40) ").same("judge(0, 40) = 0")
            .upon("one(0, 0, 5, 20, 0) " + YardEdges.crowd(1, 2) + "ask(4, 1) fill 0 3: 1 -1 fill 1 3: -1 ")
            .same("judge(0, 1) = -1 judge(1, 1) = 0")
            .upon(SIX + "fill 0 3: -1 ").same("judge(0, 1) = 0").upon(SIX + "fill 0 3: 4294972296 ").same("judge(0, 1) = 0")
            .upon(YardEdges.crowd(2, 6) + "fill 0 3: 7000 8000 ").same("judge(0, 1) = -1 judge(0, 2) = 1")
            .upon(SIX + "ask(4, 1) fill 0 3: 6000 ").same("judge(0, 1) = 0")
            .upon(SIX + "ask(4, 1) fill 0 3: 0 ").same("judge(0, 1) = -1")
            .upon(SIX + "ask(4, 1) fill 0 3: 101 ").same("judge(0, 1) = -1")
            // 5 stands beside 0 then: 4 has FORCE 13 against 6, where it was 14.
            .upon(SIX + "fill 0 3: 5100 1000 4001 ").same("judge(0, 3) = -1"));
        w.says("BAD SHELF, n;", t -> t.upon(BOOK)
            .refused("judge(8, 0) = -2 judge(-1, 0) = -2 judge(1, 41) = -2 judge(2, -1) = -2"));
        w.says("OTHER;", t -> t.upon(BOOK).refused("judge(1, 0) = -3 judge(1, 40) = -3"));
        w.says("NOTHING;", t -> t.upon(BOOK).refused("judge(2, 0) = -4 judge(2, 40) = -4"));
        w.says("BAD: fewer elements.", t -> t.upon(BOOK).refused("judge(0, 4) = -2 judge(0, 40) = -2"));
        w.promise(42, "int behind(int s, int n, int what)");
        // 5 goes over and is HELD, 1 goes over and is HELD: 3 and 3, 4 and 2, 3 and 3.
        w.says("Behind it: how many CHAIN 0 has (what 0), CHAIN 1 (1), WON (2; NONE).", t -> t.upon(BOOK)
            .same("behind(0, 0, 0) = 3 behind(0, 1, 0) = 4 behind(0, 1, 1) = 2 behind(0, 2, 0) = 3 behind(0, 2, 1) = 3 "
            + "behind(0, 1, 2) = -1")
            .upon(BOOK + "ask(3, 1) ").same("behind(0, 1, 2) = 0"));
        w.says("BAD, also what;", t -> t.upon(BOOK)
            .refused("behind(8, 0, 0) = -2 behind(1, 41, 0) = -2 behind(1, 0, 3) = -2 behind(2, 0, -1) = -2"));
        w.says("OTHER;", t -> t.upon(BOOK).refused("behind(1, 0, 0) = -3"));
        w.says("NOTHING;", t -> t.upon(BOOK).refused("behind(2, 0, 0) = -4"));
        w.says("BAD;", t -> t.upon(BOOK).refused("behind(0, 4, 0) = -2"));
        w.says("STUCK: it is WRONG.", t -> t.upon(BOOK).refused("behind(0, 3, 0) = -5 behind(0, 3, 2) = -5"));
        w.says("(NONE isn't refused.)", t -> t.upon(BOOK).same("behind(0, 2, 2) = -1"));
    }

    private static void cameToPass(Walk w) {
        w.promise(43, "int booked(int s, int n)");
        w.says("It comes to pass in truth: RUNS.", t -> t.upon(BOOK)
            .due("booked(0, 2) = 2 line(0) = 1052 line(1) = 1314 status(1) = 2 status(2) = 0 status(7) = 4 oneOf(3, 3) = 1 "
            + "oneOf(0, 3) = 1")
            .due("booked(0, 1) = 1 line(0) = 10512 fill 0 2: 1000 = 1 booked(0, 1) = 2 line(1) = 1314")
            .same("booked(0, 0) = 0"));
        w.says("BAD;", t -> t.upon(BOOK).refused("booked(8, 0) = -2 booked(-1, 0) = -2 booked(1, 41) = -2 booked(2, -1) = -2"));
        w.says("OTHER;", t -> t.upon(BOOK).refused("booked(1, 0) = -3"));
        w.says("NOTHING;", t -> t.upon(BOOK).refused("booked(2, 0) = -4"));
        w.says("BAD;", t -> t.upon(BOOK).refused("booked(0, 4) = -2"));
        w.says("STUCK likewise.", t -> t.upon(BOOK).refused("booked(0, 3) = -5"));
    }
}
