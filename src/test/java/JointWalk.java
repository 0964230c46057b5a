/** Promises 17 to 34: JOINTS, ODDS and choices, PLAYS, how to stand, moves, pairs, what it would need. */
final class JointWalk {
    private static final String SIX = YardEdges.SIX;
    private static final String RUNG = JointEdges.RUNG;
    private static final String POWERS = RunWalk.POWERS;

    static void all(Walk w) {
        joints(w);
        odds(w);
        choices(w);
        plays(w);
        stands(w);
        people(w);
        needs(w);
    }

    private static void joints(Walk w) {
        w.promise(17, "int strength(int chain, int joint)");
        w.says("STRENGTH.", t -> t.upon(SIX)
            .same("strength(0, 0) = 14 strength(0, 1) = 22 strength(1, 0) = 14 strength(1, 1) = 2"));
        w.says("BAD: also no such JOINT.", t -> t.upon(SIX)
            .refused("strength(2, 0) = -2 strength(-1, 0) = -2 strength(0, 2) = -2 strength(0, -1) = -2"));
        w.promise(18, "int weakest(int chain)");
        w.says("The JOINT of the least STRENGTH, of several the first.", t -> t.upon(SIX).same("weakest(0) = 0 weakest(1) = 1")
            .upon(ThoughtWalk.sides("9 1 1 1 9", "0 0")).same("weakest(0) = 1 weakest(1) = 0"));
        w.says("BAD;", t -> t.upon(SIX).refused("weakest(2) = -2 weakest(-1) = -2"));
        w.says("STUCK: there is none.", t -> t.upon(YardEdges.crowd(1, 0)).refused("weakest(0) = -5 weakest(1) = -5"));
        w.promise(19, "int strongest(int chain)");
        w.says("The JOINT of the greatest STRENGTH, of several the first.", t -> t.upon(SIX)
            .same("strongest(0) = 1 strongest(1) = 0")
            .upon(ThoughtWalk.sides("1 9 1 9 1", "0 0")).same("strongest(0) = 1 strongest(1) = 0"));
        w.says("BAD;", t -> t.upon(SIX).refused("strongest(2) = -2 strongest(-1) = -2"));
        w.says("STUCK: there is none.", t -> t.upon(YardEdges.crowd(1, 0)).refused("strongest(0) = -5 strongest(1) = -5"));
        w.promise(20, "int hardest(int chain)");
        w.says("Who of a CHAIN has the greatest FORCE, of several the first by PLACES.", t -> t.upon(SIX)
            .same("hardest(0) = 0 hardest(1) = 3")
            .upon(SIX + "tell(2, 1, 9) ").same("hardest(0) = 0").upon(SIX + "tell(2, 1, 9) move(2, 0) ").same("hardest(0) = 2")
            .upon(SIX + "tell(1, 1, 10) tell(4, 1, 20) ").same("hardest(0) = 1 hardest(1) = 4"));
        w.says("BAD;", t -> t.upon(SIX).refused("hardest(2) = -2 hardest(-1) = -2"));
        w.says("STUCK: nobody is in it.", t -> t.upon(YardEdges.crowd(1, 0)).same("hardest(0) = 0").refused("hardest(1) = -5"));
    }

    private static void odds(Walk w) {
        w.promise(21, "int odds(int one, int joint)");
        w.says("ODDS of one of the CHAIN that is called.", t -> t.upon(SIX + "ask(1, 4) ")
            .same("odds(3, 0) = 1000000 odds(4, 0) = 500000 odds(5, 0) = 0 odds(3, 1) = 250000"));
        w.says("BAD: also no such JOINT;", t -> t.upon(SIX)
            .refused("odds(6, 0) = -2 odds(-1, 0) = -2 odds(3, 2) = -2 odds(0, -1) = -2"));
        w.says("STUCK: one of the other CHAIN.", t -> t.upon(SIX).refused("odds(0, 0) = -5 odds(2, 1) = -5"));
        w.promise(22, "int at(int one)");
        w.says("AT.", t -> t.upon(SIX).same("at(3) = 0 at(4) = 0").upon(SIX + "ask(4, 1) ").same("at(0) = 1 at(2) = 1"));
        w.says("BAD;", t -> t.upon(SIX).refused("at(6) = -2 at(-1) = -2").upon(RUNG).refused("at(6) = -2"));
        w.says("STUCK: one of the CHAIN that calls, OVER.", t -> t.upon(SIX).refused("at(0) = -5")
            .upon(RUNG).refused("at(0) = -5 at(3) = -5"));
    }

    private static void choices(Walk w) {
        w.promise(23, "int take(int joint)");
        w.says("TAKE.", t -> t.upon(SIX).same("take(0) = 0 take(1) = 0").upon(POWERS).same("take(0) = 1 take(3) = 1")
            .upon(SIX + "ask(4, 1) ").same("take(0) = 0 take(1) = 0"));
        w.says("BAD: no such JOINT of the CHAIN that calls.", t -> t.upon(SIX).refused("take(2) = -2 take(-1) = -2")
            .upon(POWERS + "ask(4, 1) ").refused("take(1) = -2"));
        w.promise(24, "int call()");
        w.says("CALL.", t -> t.upon(SIX).same("call() = 4").upon(SIX + "ask(1, 3) ").same("call() = 5"));
        w.says("STUCK: OVER.", t -> t.refused("call() = -5").upon(RUNG).refused("call() = -5"));
        w.promise(25, "int won()");
        w.says("WON.", t -> t.upon(SIX).same("won() = -1").upon(RUNG).same("won() = 0")
            .upon(YardEdges.crowd(1, 3)).same("won() = 1"));
        w.promise(26, "int over()");
        w.says("1 if it is OVER, else 0.", t -> t.upon(SIX).same("over() = 0").upon(RUNG).same("over() = 1"));
    }

    private static void plays(Walk w) {
        w.promise(27, "int play(int rule, int what)");
        // All HELD: 3 and 3, 4 and 2, 3 and 3, 4 and 2.
        w.says("A PLAY by a rule (0, 1): WON (what 0; NONE), RUNS of it (1), how many CHAIN 0 has in the end (2).", t -> t
            .upon(ChoiceEdges.STRONG + "ask(3, 3) ")
            .same("play(0, 0) = 0 play(0, 1) = 3 play(0, 2) = 4 play(1, 0) = 0 play(1, 1) = 3 play(1, 2) = 4")
            .upon(ChoiceEdges.STRONG + "ask(3, 4) ").same("play(0, 0) = -1 play(0, 1) = 4 play(0, 2) = 3")
            .due("play(0, 1) = 4 play(1, 1) = 4 ask(3, 2) = 4 play(0, 1) = 2")
            .upon(RUNG).same("play(0, 0) = 0 play(0, 1) = 0 play(1, 2) = 4"));
        w.says("BAD.", t -> t.upon(SIX).refused("play(2, 0) = -2 play(-1, 0) = -2 play(0, 3) = -2 play(0, -1) = -2"));
        w.says("(NONE isn't refused.)", t -> t.upon(ChoiceEdges.STRONG).same("play(0, 0) = -1 play(1, 0) = -1"));
    }

    private static void stands(Walk w) {
        String one = ThoughtWalk.sides("1 5 9", "0");
        w.promise(28, "int stand(int chain, int i)");
        w.says("STAND: its least STRENGTH (i NONE; 0 if there is no JOINT), who is at PLACE i.", t -> t.upon(one)
            .same("stand(0, NONE) = 8 stand(0, 0) = 0 stand(0, 1) = 2 stand(0, 2) = 1 stand(1, NONE) = 0 stand(1, 0) = 3"));
        w.says("BAD: also no such PLACE;", t -> t.upon(one)
            .refused("stand(2, 0) = -2 stand(-1, NONE) = -2 stand(0, 3) = -2 stand(0, -2) = -2 stand(1, 1) = -2"));
        w.says("FULL: more than 7.", t -> t.upon(YardEdges.crowd(8, 0))
            .refused("stand(0, NONE) = -6 stand(0, 7) = -6 stand(0, 8) = -2"));
        w.promise(29, "int worth(int chain)");
        w.says("By how much the least STRENGTH is more by STAND than it is now (0 if there is no JOINT).", t -> t.upon(one)
            .same("worth(0) = 4 worth(1) = 0").upon(one + "move(2, 1) ").same("worth(0) = 0"));
        w.says("BAD;", t -> t.upon(one).refused("worth(2) = -2 worth(-1) = -2"));
        w.says("FULL: more than 7.", t -> t.upon(YardEdges.crowd(0, 8)).refused("worth(1) = -6 worth(2) = -2")
            .same("worth(0) = 0")
            .upon(YardEdges.crowd(0, 7) + "tell(0, 0, 1) tell(3, 0, 9) ").same("worth(1) = 4"));
        w.promise(30, "int move(int one, int place)");
        w.says("One goes to another PLACE of the same CHAIN (those between move up) in truth: the PLACE ahead.", t -> t
            .upon(POWERS)
            .due("move(0, 3) = 0 line(0) = 112304 oneOf(0, 6) = 3 line(1) = 156")
            .due("move(4, 1) = 4 line(0) = 104123").due("move(6, 0) = 1 line(1) = 165 line(0) = 101234"));
        w.says("BAD: also no such PLACE.", t -> t.upon(POWERS)
            .refused("move(7, 0) = -2 move(-1, 0) = -2 move(0, 5) = -2 move(0, -1) = -2 move(5, 2) = -2"));
    }

    private static void people(Walk w) {
        w.promise(31, "int pair()");
        // HOLD beside each other: 13 and 11 of the SISTERS, 8, 12, 4, 0 of the others.
        w.says("The two PEOPLE (10 times the one and the other, the one below) whose HOLD beside each other is greatest "
            + "together, whatever their CHAINS, of several the first.", t -> t.upon(SIX).same("pair() = 12")
            .upon(SIX + "tell(2, 2, 9) ").same("pair() = 3").upon(SIX + "tell(3, 2, 20) tell(2, 2, 3) ").same("pair() = 12")
            .upon(YardEdges.crowd(2, 2)).same("pair() = 1").upon(YardEdges.crowd(2, 2) + "tell(0, 0, 0) ").same("pair() = 12"));
        w.says("STUCK: fewer than two.", t -> t.refused("pair() = -5").upon(YardEdges.crowd(1, 0)).refused("pair() = -5")
            .upon(YardEdges.crowd(1, 1)).same("pair() = 1"));
        w.promise(32, "int tiredest()");
        w.says("Who is most TIRED, of several the first.", t -> t.upon(SIX).same("tiredest() = 0")
            .upon(SIX + "tell(1, 2, 3) ").same("tiredest() = 1").upon(SIX + "tell(5, 2, 1) ").same("tiredest() = 5")
            .upon(SIX + "tell(1, 2, 3) tell(3, 2, 4) tell(5, 2, 4) ").same("tiredest() = 3"));
        w.says("STUCK: nobody.", t -> t.refused("tiredest() = -5").upon(YardEdges.crowd(0, 1)).same("tiredest() = 0"));
    }

    private static void needs(Walk w) {
        w.promise(33, "int spreadFor(int one, int joint)");
        // FORCE 13 and 20 against 14 and 22, 3 against 14; then 10 against 10, 2 and 1 against 10.
        w.says("The least SPREAD (1 to 10) by which ODDS of one at a JOINT of the CHAIN that calls are above 0; NONE.", t -> t
            .upon(SIX).same("spreadFor(3, 0) = 1 spreadFor(4, 0) = 3 spreadFor(3, 1) = 4 spreadFor(5, 0) = -1")
            .upon(ThoughtWalk.sides("6 6", "10 2 1") + "ask(1, 7) ")
            .same("spreadFor(2, 0) = 2 spreadFor(3, 0) = 10 spreadFor(4, 0) = -1")
            .upon(SIX + "ask(4, 1) ").same("spreadFor(0, 0) = 4 spreadFor(0, 1) = 1"));
        w.says("BAD;", t -> t.upon(SIX)
            .refused("spreadFor(6, 0) = -2 spreadFor(-1, 0) = -2 spreadFor(3, 2) = -2 spreadFor(0, -1) = -2"));
        w.says("STUCK: one of the CHAIN that calls.", t -> t.upon(SIX).refused("spreadFor(0, 0) = -5"));
        w.says("(NONE isn't refused.)", t -> t.upon(SIX).same("spreadFor(5, 1) = -1"));
        w.promise(34, "int yardsFor(int one, int joint)");
        // Without YARDS FORCE is 17, 10 and 0: 17 is above 14, 10 needs 5 more, 0 needs 15; 17 needs 6 more than 22.
        w.says("The least YARDS (0 to 30) by which these ODDS are 1,000,000; NONE.", t -> t.upon(SIX + "ask(1, 5) ")
            .same("yardsFor(3, 0) = 0 yardsFor(4, 0) = 15 yardsFor(5, 0) = -1 yardsFor(3, 1) = 18")
            .upon(ThoughtWalk.sides("6 6", "1 0")).same("yardsFor(2, 0) = 30 yardsFor(3, 0) = -1")
            .upon(SIX + "ask(4, 1) ").same("yardsFor(0, 0) = 18 yardsFor(1, 1) = 0"));
        w.says("BAD;", t -> t.upon(SIX)
            .refused("yardsFor(6, 0) = -2 yardsFor(-1, 0) = -2 yardsFor(3, 2) = -2 yardsFor(0, -1) = -2"));
        w.says("STUCK likewise.", t -> t.upon(SIX).refused("yardsFor(0, 0) = -5"));
        w.says("(NONE isn't refused.)", t -> t.upon(SIX).same("yardsFor(5, 1) = -1"));
    }
}
