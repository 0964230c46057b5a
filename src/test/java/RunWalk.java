/** The document's second part: JOINTS AND RUNS. */
final class RunWalk {
    private static final String SIX = YardEdges.SIX;
    /** GRIPS 1, 2, 4, 8 and 16 tell which two hold a JOINT; CHAIN 1 has 5 and 6, who have nothing; YARDS 0. */
    static final String POWERS = "ask(0, 0) one(0, 0, 1, 0, 0) one(0, 0, 2, 0, 0) one(0, 0, 4, 0, 0) one(0, 0, 8, 0, 0) "
        + "one(0, 0, 16, 0, 0) one(1, 0, 0, 0, 0) one(1, 0, 0, 0, 0) ";

    static void all(Walk w) {
        w.passes("==== 2. JOINTS AND RUNS");
        hold(w);
        w.passes("text");
        strength(w);
        forceAndOdds(w);
        run(w);
        over(w);
    }

    private static void hold(Walk w) {
        w.says("HOLD of one, beside another: GRIP less TIRED (0 at least);", t -> t
            .upon("one(0, 0, 9, 20, 7) one(0, 0, 8, 20, 7) ").same("strength(0, 0) = 15")
            .due("tell(0, 2, 4) = 0 strength(0, 0) = 11 tell(1, 2, 3) = 0 strength(0, 0) = 8 tell(0, 2, 20) = 4 "
            + "strength(0, 0) = 3"));
        w.says("FIRM (SISTER): a more;", t -> t.upon("one(0, 1, 9, 20, 7) one(0, 3, 6, 20, 2) show(0, 0) show(1, 1) ")
            .same("says(0, 1) = 16 says(1, 1) = 8 strength(0, 0) = 22")
            .due("tell(0, 2, 20) = 0 says(0, 1) = 7"));
        w.says("WEAK (SLY): half of that (cut);", t -> t.upon("one(0, 2, 9, 20, 7) one(0, 5, 7, 20, 7) show(0, 0) show(1, 1) ")
            .same("says(0, 2) = 4 says(1, 2) = 3 strength(0, 0) = 5")
            .due("tell(0, 2, 2) = 0 says(0, 2) = 3 tell(0, 2, 3) = 2 says(0, 2) = 3"));
        w.says("SISTER: 5 more beside a SISTER;", t -> t.upon("one(0, 3, 6, 0, 2) one(0, 3, 5, 0, 1) one(0, 1, 5, 0, 1) ")
            .same("strength(0, 0) = 22 strength(0, 1) = 10 pair() = 1"));
        w.says("HEAVY: a quarter of WEIGHT more (cut).", t -> t.upon("one(0, 4, 9, 15, 9) one(0, 0, 0, 15, 9) ")
            .same("strength(0, 0) = 10")
            .due("tell(0, 1, 16) = 15 strength(0, 0) = 11 tell(0, 1, 3) = 16 strength(0, 0) = 7 tell(0, 2, 20) = 0 "
            + "tell(0, 1, 20) = 3 "
                + "strength(0, 0) = 3"));
    }

    private static void strength(Walk w) {
        w.says("JOINT j of a CHAIN is between PLACES j and j and 1.", t -> t.upon(POWERS)
            .same("strength(0, 1) = 6 strength(0, 2) = 12").refused("strength(0, 4) = -2")
            .due("run(5, 2, 0) = 0 line(0) = 1012534"));
        w.says("STRENGTH: HOLD of both together;", t -> t.upon(POWERS).same("strength(0, 1) = 6 strength(0, 2) = 12"));
        w.says("3 more, if WRISTS is 1;", t -> t.upon(POWERS + "ask(2, 1) ")
            .same("strength(0, 0) = 4 strength(0, 1) = 9 strength(0, 2) = 15 strength(0, 3) = 25 strength(1, 0) = 1"));
        w.says("2 less (0 at least) of the first and the last JOINT.", t -> t.upon(POWERS)
            .same("strength(0, 0) = 1 strength(0, 3) = 22 strength(1, 0) = 0")
            .upon("one(0, 0, 1, 0, 0) one(0, 0, 0, 0, 0) ").same("strength(0, 0) = 0")
            .upon("one(0, 0, 7, 0, 0) one(0, 0, 7, 0, 0) ").same("strength(0, 0) = 12"));
    }

    private static void forceAndOdds(Walk w) {
        String each = "one(0, 0, 8, 9, 5) one(0, 1, 8, 9, 5) one(0, 2, 8, 9, 5) one(0, 3, 8, 9, 5) one(0, 4, 8, 9, 5) "
            + "one(0, 5, 8, 9, 5) ";
        w.says("FORCE of one who runs: WEIGHT and a third of YARDS (cut);", t -> t.upon(each)
            .same("oneOf(0, 7) = 12 oneOf(1, 7) = 12 oneOf(2, 7) = 12 oneOf(3, 7) = 12")
            .due("ask(0, 11) = 9 oneOf(0, 7) = 12 ask(0, 12) = 11 oneOf(0, 7) = 13 ask(0, 2) = 12 oneOf(0, 7) = 9"));
        w.says("HEAVY: a more;", t -> t.upon(each).same("oneOf(4, 7) = 17"));
        w.says("SLY: 2 more.", t -> t.upon(each).same("oneOf(5, 7) = 14"));
        // STRENGTH 10; the FORCE of 2 is its WEIGHT.
        w.says("ODDS of a run at a JOINT: of the SPREAD numbers 0 to SPREAD less 1 those by which FORCE and the number "
            + "are above STRENGTH: 1,000,000 times how many, by SPREAD (cut).", t -> t
            .upon(TapeEdges.wall(10, 4)).same("odds(2, 0) = 750000")
            .upon(TapeEdges.wall(7, 4)).same("odds(2, 0) = 0")
            .upon(TapeEdges.wall(8, 4)).same("odds(2, 0) = 250000")
            .upon(TapeEdges.wall(11, 4)).same("odds(2, 0) = 1000000")
            .upon(TapeEdges.wall(9, 3)).same("odds(2, 0) = 333333")
            .upon(TapeEdges.wall(10, 3)).same("odds(2, 0) = 666666"));
    }

    private static void run(Walk w) {
        w.says("A RUN: the CHAIN whose TURN it is calls one of the other CHAIN, who runs at a JOINT of it.", t -> t.upon(SIX)
            .due("run(5, 1, 0) = 0 line(0) = 10152 line(1) = 134").refused("run(0, 0, 0) = -5 run(5, 2, 0) = -2")
            .upon(SIX + "ask(4, 1) ").due("run(0, 0, 0) = 0 line(1) = 13045 line(0) = 112")
            .refused("run(5, 0, 0) = -5 run(0, 2, 0) = -2"));
        w.says("Both of that JOINT are 1 more TIRED then (20 at most), by either end.", t -> t.upon(SIX)
            .due("run(5, 1, 0) = 0 oneOf(1, 3) = 1 oneOf(2, 3) = 1 status(7) = 2")
            .due("run(3, 0, 1) = 1 oneOf(0, 3) = 1 oneOf(1, 3) = 1 status(7) = 2")
            .upon(SIX + "tell(0, 2, 20) tell(1, 2, 19) ")
            .due("run(3, 0, 0) = 1 oneOf(0, 3) = 20 oneOf(1, 3) = 20 status(7) = 40"));
        w.says("HELD: the runner comes between them.", t -> t.upon(SIX).due("run(4, 0, 1) = 0 line(0) = 10412 line(1) = 135")
            .upon(POWERS).due("run(6, 3, 0) = 0 line(0) = 1012364 line(1) = 15"));
        w.says("TORN: the runner goes to the end of the own CHAIN, and one of the two (side 0 the left, at PLACE j; 1 "
            + "the right) comes behind.", t -> t.upon(SIX).due("run(3, 0, 0) = 1 line(0) = 112 line(1) = 14530")
            .due("run(3, 0, 1) = 1 line(0) = 102 line(1) = 14531")
            .upon(POWERS + "tell(5, 1, 20) ").due("run(5, 2, 0) = 1 line(0) = 10134 line(1) = 1652")
            .due("run(5, 2, 1) = 1 line(0) = 10124 line(1) = 1653"));
        w.says("TURN is the other's then; RUNS 1 more.", t -> t.upon(SIX)
            .due("run(5, 0, 0) = 0 status(2) = 1 status(1) = 1 run(1, 0, 0) = 0 status(2) = 0 status(1) = 2")
            .due("run(3, 0, 0) = 1 status(2) = 1 status(1) = 1"));
    }

    private static void over(Walk w) {
        w.says("OVER: a CHAIN has fewer than 2, or RUNS are BELL.", t -> t.same("over() = 1")
            .upon(YardEdges.crowd(2, 2)).same("over() = 0")
            .upon(YardEdges.crowd(1, 7)).same("over() = 1")
            .upon(YardEdges.crowd(7, 1)).same("over() = 1")
            .upon(SIX + "ask(3, 2) run(5, 0, 0) ").due("over() = 0 run(1, 0, 0) = 0 over() = 1 ask(3, 3) = 2 over() = 0"));
        w.says("WON: then the CHAIN that has more; NONE: neither (or it isn't OVER).", t -> t.same("won() = -1")
            .upon(YardEdges.crowd(1, 2)).same("won() = 1")
            .upon(YardEdges.crowd(2, 1)).same("won() = 0")
            .upon(YardEdges.crowd(1, 1)).same("won() = -1")
            .upon(YardEdges.crowd(2, 5)).same("won() = -1")
            .upon(SIX + "ask(3, 1) run(5, 0, 0) ").same("won() = 0"));
    }
}
