/** Promises 44 to 53: orders, RUNS in truth, RESTS, what is kept, the status; and what is not promised. */
final class TruthWalk {
    private static final String SIX = YardEdges.SIX;
    private static final String RUNG = JointEdges.RUNG;

    static void all(Walk w) {
        orders(w);
        runs(w);
        rests(w);
        kept(w);
        status(w);
        notPromised(w);
    }

    private static void orders(Walk w) {
        String rows = SIX + "fill 0 2: 2 0 1 7 fill 1 0: 5 4 3 fill 2 3: 0 1 show(3, 0) ";
        w.promise(44, "int order(int chain, int s)");
        w.says("A CHAIN stands as the first n elements (as many as it has) of the ROW in SHELF s tell, by numbers: n.", t -> t
            .upon(rows)
            .due("order(0, 0) = 3 line(0) = 1201 line(1) = 1345 oneOf(2, 6) = 0 order(1, 1) = 3 line(1) = 1543"));
        w.says("BAD SHELF, CHAIN;", t -> t.upon(rows)
            .refused("order(0, 8) = -2 order(0, -1) = -2 order(2, 3) = -2 order(-1, 4) = -2"));
        w.says("OTHER;", t -> t.upon(rows).refused("order(0, 3) = -3 order(1, 3) = -3"));
        w.says("NOTHING;", t -> t.upon(rows).refused("order(0, 4) = -4 order(1, 4) = -4"));
        w.says("BAD: fewer elements, not just its PEOPLE.", t -> t.upon(rows)
            .refused("order(0, 2) = -2 order(0, 1) = -2 order(1, 0) = -2")
            .upon(SIX + "fill 0 3: 2 0 2 ").refused("order(0, 0) = -2")
            .upon(SIX + "fill 0 3: 2 0 4294967297 ").refused("order(0, 0) = -2")
            .upon(SIX + "fill 0 3: -1 0 1 ").refused("order(0, 0) = -2")
            .upon(SIX + "fill 0 3: 0 1 6 ").refused("order(0, 0) = -2"));
        w.promise(45, "int best(int chain)");
        w.says("A CHAIN stands as STAND has it, in truth: its least STRENGTH (0 if there is no JOINT).", t -> t
            .upon(ThoughtWalk.sides("1 5 9", "0"))
            .due("best(0) = 8 line(0) = 1021 strength(0, 0) = 8 best(1) = 0 line(1) = 13"));
        w.says("BAD;", t -> t.upon(SIX).refused("best(2) = -2 best(-1) = -2"));
        w.says("FULL: more than 7.", t -> t.upon(YardEdges.crowd(8, 0)).refused("best(0) = -6 best(2) = -2")
            .upon(YardEdges.crowd(7, 0) + "move(6, 2) ").due("best(0) = 8 line(0) = 10123456"));
    }

    private static void runs(Walk w) {
        w.promise(46, "int run(int one, int joint, int side)");
        w.says("A RUN in truth (side 0, 1): 1 TORN, 0 HELD.", t -> t.upon(SIX)
            .due("run(3, 0, 1) = 1 line(0) = 102 line(1) = 14531 status(1) = 1 status(2) = 1 status(9) = 1103527590")
            .due("run(4, 0, 1) = 0 line(0) = 10412 line(1) = 135 status(1) = 1 status(2) = 1 status(9) = 1103527590"));
        w.says("BAD one, JOINT, side;", t -> t.upon(SIX)
            .refused("run(6, 0, 0) = -2 run(-1, 0, 0) = -2 run(3, 2, 0) = -2 run(3, -1, 0) = -2 run(3, 0, 2) = -2 "
            + "run(0, 0, -1) = -2"));
        w.says("STUCK: one of the CHAIN that calls, OVER.", t -> t.upon(SIX).refused("run(0, 0, 0) = -5 run(2, 1, 1) = -5")
            .upon(RUNG).refused("run(0, 0, 0) = -5"));
        // 3 tears and takes 1, of GRIP 8; then 0 is HELD by those of GRIP 5, and one is left.
        String taken = "ask(0, 0) one(0, 0, 3, 7, 0) one(0, 0, 8, 7, 0) one(0, 0, 9, 7, 0) one(1, 0, 5, 10, 0) "
            + "one(1, 0, 5, 10, 0) ";
        w.promise(47, "int runs(int n)");
        w.says("n RUNS (1 to 40) in truth by rule 0 (CALL, AT, TAKE), until it is OVER: how many were TORN.", t -> t.upon(taken)
            .due("runs(1) = 1 line(0) = 102 line(1) = 1431 status(1) = 1")
            .due("runs(40) = 1 line(0) = 12 line(1) = 14031 status(1) = 2 status(9) = -1770082073 runs(40) = 0")
            .upon(ChoiceEdges.STRONG + "ask(3, 99) ").due("runs(40) = 0 status(1) = 40")
            // 2 is lighter than 3, but HEAVY: FORCE 14 and 8 against 10.
            .upon("ask(0, 0) one(0, 0, 6, 0, 0) one(0, 0, 6, 0, 0) one(1, 4, 0, 5, 9) one(1, 0, 0, 8, 0) ")
            .due("runs(1) = 0 line(0) = 1031")
            // STRENGTH 8 and 2: FORCE 5 runs at the second, FORCE 20 would at the first.
            .upon(ThoughtWalk.sides("9 1 3", "5 20")).due("runs(1) = 1 line(0) = 101 line(1) = 1432")
            // DRAWS 2 and 2 below 4: FORCE 9 is above 10 by them, 8 isn't.
            .upon(TapeEdges.wall(9, 4) + "tell(3, 1, 9) ").due("runs(1) = 1 line(1) = 1320")
            .upon(TapeEdges.wall(8, 4) + "tell(3, 1, 9) ").due("runs(1) = 0 line(0) = 1021"));
        w.says("BAD.", t -> t.upon(SIX).refused("runs(0) = -2 runs(41) = -2 runs(-1) = -2"));
    }

    private static void rests(Walk w) {
        w.promise(48, "int rest(int n)");
        w.says("A REST of n (0 to 20): how many aren't TIRED then.", t -> t.upon(SIX + "tell(0, 2, 5) tell(4, 2, 2) ")
            .due("rest(2) = 5 oneOf(0, 3) = 3 oneOf(4, 3) = 0 rest(0) = 5 rest(3) = 6 status(7) = 0"));
        w.says("BAD.", t -> t.upon(SIX + "tell(0, 2, 5) ").refused("rest(-1) = -2 rest(21) = -2"));
        w.promise(49, "int again()");
        w.says("RUNS are 0, TURN is 0, nobody is TIRED (all stay where they are): RUNS ahead.", t -> t
            .upon(SIX + "ask(3, 9) run(5, 0, 0) tell(3, 2, 20) ")
            .due("again() = 1 status(1) = 0 status(2) = 0 status(7) = 0 line(0) = 10512 line(1) = 134 status(6) = 9 "
            + "status(9) = 1103527590"));
        w.promise(50, "int seed(int v)");
        w.says("SEED becomes v: the one ahead.", t -> t.upon(SIX)
            .due("seed(-77) = 1 status(9) = -77 seed(5) = -77 status(9) = 5"));
    }

    private static void kept(Walk w) {
        String full = SIX + "ask(0, 12) ask(1, 4) ask(2, 1) ask(3, 33) run(5, 0, 0) tell(3, 2, 7) ";
        String other = "again() ask(0, 1) ask(1, 2) ask(2, 0) ask(3, 44) seed(6) tell(4, 0, 1) tell(4, 1, 2) move(0, 3) "
            + "one(1, 1, 2, 3, 4) ";
        w.promise(51, "int image()");
        w.says("All is kept, but THE TAPE, SHELVES and REFUSALS: 1.", t -> t.bare()
            .upon(full)
            .due("image() = 1 " + other + "back() = 1 status(0) = 6 status(1) = 1 status(2) = 1 status(3) = 12 status(4) = 4 "
            + "status(5) = 1 "
                + "status(6) = 33 status(7) = 9 status(9) = 1103527590 oneOf(4, 1) = 8 oneOf(4, 2) = 8 oneOf(3, 3) = 7 "
                    + "line(0) = 10512 line(1) = 134")
            .upon("feed 'bell 7' row(0, 2, 1) call() image() wipe() feed 'yards 3' row(0, 3, 2) set(0, 1, 9) call() back() ")
            .due("holds(0) = 3 element(0, 1) = 9 status(15) = 2 yard() = 1 status(3) = 3 status(6) = 20"));
        w.promise(52, "int back()");
        w.says("All is again as it was kept (SHELVES with somebody hold those of the same numbers, or NOTHING): 1.", t -> t.bare()
            .upon(SIX + "image() one(0, 0, 5, 5, 0) show(0, 5) show(1, 6) row(2, 0, 1) ask(0, 3) ")
            .due("back() = 1 status(0) = 6 status(3) = 9 holds(0) = 15 holds(1) = -1 holds(2) = 0 status(10) = 2 "
            + "ask(0, 4) = 9 back() = 1 status(3) = 9")
            .upon("image() " + YardEdges.crowd(4, 4) + "show(0, 0) show(7, 7) ")
            .due("back() = 1 status(10) = 0 holds(0) = -1 holds(7) = -1"));
        w.says("STUCK: nothing was.", t -> t.bare().upon(SIX).refused("back() = -5"));
    }

    private static void status(Walk w) {
        String all = SIX + "ask(0, 12) ask(1, 4) ask(2, 1) ask(3, 33) run(5, 0, 0) tell(3, 2, 7) feed 'bell' row(0, 2, 1) "
            + "show(7, 4) ";
        w.promise(53, "int status(int what)");
        w.says("PEOPLE (0), RUNS (1), TURN (2), YARDS (3), SPREAD (4), WRISTS (5), BELL (6), all TIRED together (7), THE "
            + "TAPE's size (8), SEED (9), SHELVES that hold something (10);", t -> t.upon(all)
            .same("status(0) = 6 status(1) = 1 status(2) = 1 status(3) = 12 status(4) = 4 status(5) = 1 status(6) = 33 "
            + "status(7) = 9 "
                + "status(8) = 4 status(9) = 1103527590 status(10) = 2"));
        w.says("12 to 16: REFUSALS -2 to -6.", t -> t
            .upon(YardEdges.crowd(8, 0) + "show(0, 0) " + "ask(9, 0) ".repeat(5) + "set(0, 0, 0) ".repeat(4)
            + "set(1, 0, 0) ".repeat(3) + "call() ".repeat(2) + "one(0, 0, 5, 5, 0) ")
            .same("status(12) = 5 status(13) = 4 status(14) = 3 status(15) = 2 status(16) = 1"));
        w.says("NONE another what.", t -> t.upon(all).same("status(11) = -1 status(17) = -1 status(-1) = -1 status(-2) = -1"));
    }

    private static void notPromised(Walk w) {
        w.passes("## Not promised");
        w.passes("How the state is held inside the object is free, as are the speed of each call, the text of toString and "
            + "the behaviour "
            + "of equals and hashCode.");
        w.passes("Use of one object from several threads at once is not promised to be safe.");
        w.says("Nothing is promised beyond the answers and state changes described above, and nothing about an object "
            + "after its 512th call.", TruthWalk::leavesOthersAlone);
    }

    /** What is called on one object changes nothing of another, and the same calls give the same answers again. */
    private static void leavesOthersAlone(Edge t) {
        String calls = SIX + "image() run(3, 0, 1) fill 0 3: 7 8 feed 'bell 7' ask(1, 9) tell(4, 2, 5) call() ";
        Told other = new Told();
        Told one = new Told().make(calls);
        t.that(other.state().equals(new Told().state()), "calls on one object changed another");
        other.make(YardEdges.crowd(4, 4) + "runs(9) image() wipe() play(0, 0) stand(0, 0) game(2) back() ");
        Told same = new Told().make(calls);
        t.that(one.state().equals(same.state()) && one.shelves(0, 3).equals(same.shelves(0, 3))
            && one.behindYard().equals(same.behindYard()) && one.behindBack().equals(same.behindBack())
            && one.refusals().equals(same.refusals()), "calls between changed what the same calls come to");
    }
}
