/** Boundaries of promises 22, 24 and 27 to 34: what is chosen, PLAYS, how to stand, moves, pairs, what it would need. */
final class ChoiceEdges {
    private static final int LEAST = Integer.MIN_VALUE;
    private static final int MOST = Integer.MAX_VALUE;
    private static final String FIVE = YardEdges.FIVE;
    private static final String SIX = YardEdges.SIX;
    private static final String RUNG = JointEdges.RUNG;
    private static final String ALONE = JointEdges.ALONE;
    private static final String NOBODY_ELSE = JointEdges.NOBODY_ELSE;
    /** Three in each CHAIN, whom nobody can tear apart, however TIRED. */
    static final String STRONG = "ask(0, 0) " + "one(0, 0, 20, 0, 0) ".repeat(3) + "one(1, 0, 20, 0, 0) ".repeat(3);

    static void all(Edges e) {
        at(e);
        call(e);
        play(e);
        stand(e);
        worth(e);
        move(e);
        pairAndTiredest(e);
        spreadFor(e);
        yardsFor(e);
    }

    /** CHAIN 0 of four by their GRIPS; then 4, the runner, and 5. */
    private static String four(int a, int b, int c, int d, int weight, int spread) {
        return "ask(0, 0) ask(1, " + spread + ") one(0, 0, " + a + ", 0, 0) one(0, 0, " + b + ", 0, 0) "
            + "one(0, 0, " + c + ", 0, 0) one(0, 0, " + d
            + ", 0, 0) one(1, 0, 0, " + weight + ", 0) one(1, 0, 0, 0, 0) ";
    }

    private static void at(Edges e) {
        String sentence = "AT of one of the CHAIN that is called: the JOINT with the greatest ODDS, of several the first.";
        e.test(22, sentence, "all ODDS 0, all sure, the greatest at the first, at the last, at several", t -> t
            .upon(four(6, 6, 6, 6, 1, 1)).same("at(4) = 0")
            .upon(four(6, 6, 6, 6, 20, 1)).same("at(4) = 0")
            .upon(four(6, 6, 6, 5, 10, 1)).same("at(4) = 2")
            .upon(four(5, 6, 6, 5, 10, 1)).same("at(4) = 0")
            .upon(four(6, 1, 6, 6, 10, 1)).same("at(4) = 0")
            .upon(four(8, 1, 6, 8, 8, 1)).same("at(4) = 0 odds(4, 0) = 1000000")
            .upon(four(9, 1, 6, 8, 8, 1)).same("at(4) = 1")
            .upon(four(6, 6, 6, 5, 5, 10)).same("at(4) = 2")
            .upon(four(5, 6, 6, 5, 5, 10)).same("at(4) = 0"));
        e.test(22, sentence, "the two ends of a CHAIN are no JOINT", t -> t.upon(four(1, 20, 20, 1, 10, 1)).same("at(4) = 0")
            .upon(four(2, 20, 20, 1, 11, 10)).same("at(4) = 2"));
        String own = "AT. BAD; STUCK: one of the CHAIN that calls, OVER.";
        e.test(22, own, "the first and the last that is called are told; -1 and no such one are BAD", t -> t.upon(SIX)
            .same("at(3) = 0 at(5) = 0")
            .refused("at(-1) = -2 at(6) = -2 at(8) = -2 at(" + LEAST + ") = -2 at(" + MOST + ") = -2")
            .upon("")
            .refused("at(0) = -2 at(-1) = -2")
            .upon(YardEdges.crowd(4, 4)).same("at(7) = 0").refused("at(8) = -2"));
        e.test(22, own, "the first and the last of the CHAIN that calls are STUCK", t -> t.upon(SIX)
            .refused("at(0) = -5 at(2) = -5")
            .upon(SIX + "ask(4, 1) ").same("at(0) = 1 at(2) = 1").refused("at(3) = -5 at(5) = -5"));
        e.test(22, own, "OVER by either CHAIN or by BELL is STUCK; which comes first: BAD", t -> t.upon(ALONE)
            .refused("at(1) = -5 at(2) = -5 at(0) = -5 at(3) = -2")
            .upon(NOBODY_ELSE).refused("at(2) = -5 at(0) = -5 at(3) = -2")
            .upon(RUNG)
            .refused("at(0) = -5 at(3) = -5 at(6) = -2 at(-1) = -2"));
    }

    private static void call(Edges e) {
        String sentence = "CALL: of those that can be called the one whose ODDS AT are least, of several the first by numbers.";
        e.test(24, sentence, "the first and the last are least, of several the first by numbers, not by PLACES", t -> t.upon(FIVE)
            .same("call() = 4")
            .upon(FIVE + "ask(4, 1) ").same("call() = 0")
            .upon(YardEdges.crowd(2, 6)).same("call() = 2")
            .upon(YardEdges.crowd(2, 6) + "move(7, 0) ").same("call() = 2")
            .upon(YardEdges.crowd(2, 6) + "move(2, 5) ").same("call() = 2")
            .upon("one(0, 0, 4, 0, 0) one(0, 0, 4, 0, 0) " + "one(1, 0, 0, 20, 0) ".repeat(5) + "one(1, 0, 0, 0, 0) ")
            .same("call() = 7"));
        e.test(24, sentence, "the least of ODDS that are neither 0 nor sure", t -> t
            .upon("ask(0, 0) ask(1, 10) one(0, 0, 6, 0, 0) one(0, 0, 6, 0, 0) one(1, 0, 0, 10, 0) one(1, 0, 0, 9, 0) "
                + "one(1, 0, 0, 9, 0) ")
            .same("call() = 3"));
        e.test(24, "CALL. STUCK: OVER.", "OVER by either CHAIN or by BELL, and with nobody", t -> t.refused("call() = -5")
            .upon(ALONE).refused("call() = -5")
            .upon(NOBODY_ELSE).refused("call() = -5")
            .upon(RUNG).refused("call() = -5")
            .upon(YardEdges.crowd(2, 2))
            .same("call() = 2")
            .upon(RUNG + "ask(3, 2) ").same("call() = 0"));
    }

    /** Both of CHAIN 1 have this FORCE against STRENGTH 10: TORN makes CHAIN 1 win, HELD CHAIN 0. */
    private static String both(int weight, int spread) {
        return "ask(0, 0) ask(1, " + spread + ") one(0, 0, 6, 0, 0) one(0, 0, 6, 0, 0) one(1, 0, 0, " + weight + ", 0) "
            + "one(1, 0, 0, " + weight + ", 0) ";
    }

    private static void play(Edges e) {
        String sentence = "A PLAY by rules (0: CALL; 1: the one of the least WEIGHT is called, of several the first by "
            + "numbers) to its end: each runs AT, "
            + "it is TORN if ODDS are 500,000 at least, and TAKES.";
        e.test(27, sentence, "ODDS of 500,000 are TORN, the next below are HELD", t -> t.upon(both(10, 2))
            .same("odds(2, 0) = 500000 play(0, 0) = 1 play(1, 0) = 1 play(0, 2) = 1")
            .upon(both(6, 10)).same("odds(2, 0) = 500000 play(0, 0) = 1")
            .upon(both(5, 10))
            .same("odds(2, 0) = 400000 play(0, 0) = 0 play(1, 0) = 0 play(0, 2) = 3")
            .upon(both(7, 9)).same("odds(2, 0) = 555555 play(0, 0) = 1")
            .upon(both(6, 9))
            .same("odds(2, 0) = 444444 play(0, 0) = 0")
            .upon(both(9, 3)).same("odds(2, 0) = 333333 play(0, 0) = 0"));
        // 2 is SLY: as light as 3, but tears.
        String sly = "ask(0, 0) one(0, 0, 6, 0, 0) one(0, 0, 6, 0, 0) one(1, 5, 0, 9, 0) one(1, 0, 0, 9, 0) ";
        e.test(27, sentence, "the least WEIGHT, of several the first by numbers, not by PLACES", t -> t.upon(sly)
            .same("play(1, 0) = 1 play(0, 0) = 0")
            .upon(sly + "move(3, 0) ").same("play(1, 0) = 1")
            .upon(sly + "tell(2, 1, 10) ").same("play(1, 0) = 0")
            .upon(sly + "tell(3, 1, 10) ").same("play(1, 0) = 1")
            .upon(sly + "tell(2, 1, 20) tell(3, 1, 0) ").same("play(1, 0) = 0"));
        String own = "A PLAY by a rule (0, 1): WON (what 0; NONE), RUNS of it (1), how many CHAIN 0 has in the end (2). BAD. "
            + "(NONE isn't refused.)";
        e.test(27, own, "rule 0 and 1 are taken, -1 and 2 are BAD", t -> t.upon(both(5, 1)).same("play(0, 1) = 1 play(1, 1) = 1")
            .refused("play(-1, 0) = -2 play(2, 0) = -2 play(" + LEAST + ", 0) = -2 play(" + MOST + ", 0) = -2"));
        e.test(27, own, "what 0 and 2 are taken, -1 and 3 are BAD", t -> t.upon(both(5, 1)).same("play(0, 0) = 0 play(0, 2) = 3")
            .refused("play(0, -1) = -2 play(0, 3) = -2 play(0, " + LEAST + ") = -2 play(0, " + MOST + ") = -2")
            .upon("")
            .refused("play(2, 0) = -2 play(0, 3) = -2"));
        e.test(27, own, "OVER already: no RUN, and all as it is", t -> t
            .same("play(0, 0) = -1 play(0, 1) = 0 play(0, 2) = 0 play(1, 0) = -1 play(1, 1) = 0 play(1, 2) = 0")
            .upon(ALONE).same("play(0, 0) = 1 play(0, 1) = 0 play(0, 2) = 1")
            .upon(NOBODY_ELSE)
            .same("play(1, 0) = 0 play(1, 1) = 0 play(1, 2) = 2")
            .upon(RUNG).same("play(0, 0) = 0 play(0, 1) = 0 play(0, 2) = 4"));
        e.test(27, own, "one PLAY behind another is the same", t -> t.upon(STRONG + "ask(3, 3) ")
            .due("play(0, 1) = 3 play(0, 1) = 3 play(1, 1) = 3 play(0, 2) = 4 play(0, 1) = 3"));
        e.test(27, own, "to BELL 1, 20 and 99, less the RUNS that there were; NONE isn't refused", t -> t
            .upon(STRONG + "ask(3, 1) ").same("play(0, 1) = 1 play(0, 0) = 0 play(0, 2) = 4")
            .upon(STRONG).same("play(0, 1) = 20 play(0, 0) = -1 play(0, 2) = 3 play(1, 1) = 20 play(1, 0) = -1")
            .upon(STRONG + "ask(3, 99) ").same("play(0, 1) = 99 play(1, 1) = 99 play(0, 0) = 0")
            .upon(STRONG + "runs(19) ").same("play(0, 1) = 1 play(0, 0) = -1"));
    }

    private static void stand(Edges e) {
        String sentence = "STAND of a CHAIN (7 at most): of all orders of its PEOPLE that by which its least STRENGTH is "
            + "greatest (fewer than 2: as they are), "
            + "of several the first (by rows of numbers).";
        e.test(28, sentence, "of several the first by rows of numbers, however they stand", t -> t
            .upon(YardEdges.crowd(4, 0) + "move(0, 3) move(1, 2) move(2, 1) ")
            .same("stand(0, NONE) = 8 stand(0, 0) = 0 stand(0, 1) = 1 stand(0, 2) = 2 stand(0, 3) = 3")
            .upon(YardEdges.crowd(2, 0) + "move(1, 0) ").same("stand(0, 0) = 0 stand(0, 1) = 1")
            .upon("one(1, 0, 1, 0, 0) one(0, 0, 1, 0, 0) one(1, 0, 9, 0, 0) one(0, 0, 5, 0, 0) one(1, 0, 5, 0, 0) ")
            .same("stand(1, NONE) = 8 stand(1, 0) = 0 stand(1, 1) = 2 stand(1, 2) = 4"));
        e.test(28, sentence, "where the least is 0 in every order, the first", t -> t
            .upon("one(0, 0, 0, 0, 0) ".repeat(7) + "move(6, 0) ")
            .same("stand(0, NONE) = 0 stand(0, 0) = 0 stand(0, 6) = 6"));
        e.test(28, sentence, "the first order is the best, or a later one", t -> t
            .upon("one(0, 0, 1, 0, 0) one(0, 0, 9, 0, 0) one(0, 0, 5, 0, 0) ")
            .same("stand(0, NONE) = 8 stand(0, 0) = 0 stand(0, 1) = 1 stand(0, 2) = 2")
            .upon("one(0, 0, 9, 0, 0) one(0, 0, 5, 0, 0) one(0, 0, 1, 0, 0) ")
            .same("stand(0, NONE) = 8 stand(0, 0) = 1 stand(0, 1) = 0 stand(0, 2) = 2"));
        String own = "STAND: its least STRENGTH (i NONE; 0 if there is no JOINT), who is at PLACE i. BAD: also no such PLACE; "
            + "FULL: more than 7.";
        e.test(28, own, "seven are taken, eight are FULL", t -> t.upon(YardEdges.crowd(7, 1))
            .same("stand(0, NONE) = 8 stand(0, 0) = 0 stand(0, 6) = 6")
            .upon(YardEdges.crowd(0, 7)).same("stand(1, NONE) = 8 stand(1, 6) = 6")
            .upon(YardEdges.crowd(8, 0))
            .refused("stand(0, NONE) = -6 stand(0, 0) = -6 stand(0, 7) = -6")
            .same("stand(1, NONE) = 0")
            .upon(YardEdges.crowd(0, 8)).refused("stand(1, NONE) = -6 stand(1, 7) = -6"));
        e.test(28, own, "nobody and one: no JOINT, 0, as they are", t -> t.same("stand(0, NONE) = 0 stand(1, NONE) = 0")
            .refused("stand(0, 0) = -2 stand(1, 0) = -2")
            .upon(FIVE + "run(4, 0, 0) ").same("stand(1, NONE) = 0 stand(1, 0) = 3").refused("stand(1, 1) = -2"));
        e.test(28, own, "i NONE, 0 and the last are told, -2 and the one behind are BAD", t -> t.upon(FIVE)
            .same("stand(0, NONE) = 14 stand(0, 0) = 0 stand(0, 2) = 2 stand(1, 0) = 3 stand(1, 1) = 4")
            .refused("stand(0, -2) = -2 stand(0, 3) = -2 stand(1, 2) = -2 stand(0, " + LEAST + ") = -2 "
                + "stand(0, " + MOST + ") = -2"));
        e.test(28, own, "CHAIN 0 and 1 are told, -1 and 2 are BAD; which comes first: BAD, then FULL", t -> t.upon(FIVE)
            .refused("stand(-1, 0) = -2 stand(2, 0) = -2 stand(-1, NONE) = -2 stand(2, NONE) = -2")
            .upon(YardEdges.crowd(8, 0))
            .refused("stand(0, 8) = -2 stand(0, -2) = -2 stand(1, 0) = -2 stand(2, NONE) = -2 stand(" + MOST + ", 0) = -2"));
    }

    private static void worth(Edges e) {
        String own = "By how much the least STRENGTH is more by STAND than it is now (0 if there is no JOINT). BAD; FULL: more "
            + "than 7.";
        e.test(29, own, "nobody and one: 0; two: never more", t -> t.same("worth(0) = 0 worth(1) = 0")
            .upon(YardEdges.crowd(1, 1))
            .same("worth(0) = 0 worth(1) = 0")
            .upon(YardEdges.crowd(2, 2)).same("worth(0) = 0 worth(1) = 0"));
        e.test(29, own, "seven are taken, eight are FULL", t -> t.upon(YardEdges.crowd(7, 1)).same("worth(0) = 0")
            .upon(YardEdges.crowd(7, 1) + "tell(3, 0, 20) tell(6, 0, 0) ").same("worth(0) = 5")
            .upon(YardEdges.crowd(8, 0)).refused("worth(0) = -6").same("worth(1) = 0")
            .upon(YardEdges.crowd(0, 8))
            .refused("worth(1) = -6"));
        e.test(29, own, "CHAIN 0 and 1 are told, -1 and 2 are BAD", t -> t.upon(FIVE + "one(0, 0, 1, 0, 0) one(0, 0, 9, 0, 0) ")
            .same("worth(1) = 0")
            .refused("worth(-1) = -2 worth(2) = -2 worth(" + LEAST + ") = -2 worth(" + MOST + ") = -2")
            .upon(YardEdges.crowd(8, 0)).refused("worth(2) = -2"));
    }

    private static void move(Edges e) {
        String own = "One goes to another PLACE of the same CHAIN (those between move up) in truth: the PLACE ahead. BAD: also "
            + "no such PLACE.";
        e.test(30, own, "PLACE 0 and the last are taken, -1 and the one behind are BAD", t -> t.upon(FIVE)
            .due("move(2, 0) = 2 line(0) = 1201 line(1) = 134").due("move(0, 2) = 0 line(0) = 1120")
            .due("move(1, 0) = 1 line(0) = 1102").due("move(4, 0) = 1 line(1) = 143")
            .refused("move(0, -1) = -2 move(0, 3) = -2 move(3, 2) = -2 move(0, " + LEAST + ") = -2 move(0, " + MOST + ") = -2"));
        e.test(30, own, "the same PLACE, and the only one of a CHAIN", t -> t.upon(FIVE).same("move(0, 0) = 0 move(2, 2) = 2")
            .upon(YardEdges.crowd(1, 1)).same("move(0, 0) = 0 move(1, 0) = 0")
            .refused("move(0, 1) = -2 move(1, 1) = -2"));
        e.test(30, own, "through a full CHAIN, up and down", t -> t.upon(YardEdges.crowd(8, 0))
            .due("move(0, 7) = 0 line(0) = 112345670").due("move(7, 0) = 7 line(0) = 170123456")
            .due("move(3, 4) = 3 line(0) = 101243567").refused("move(0, 8) = -2"));
        e.test(30, own, "one 0 and the last are taken, -1 and the number behind are BAD, with nobody each", t -> t.upon(FIVE)
            .due("move(0, 1) = 0 line(0) = 1102").due("move(4, 0) = 1")
            .refused("move(-1, 0) = -2 move(5, 0) = -2 move(8, 0) = -2 move(" + LEAST + ", 0) = -2 move(" + MOST + ", 0) = -2")
            .upon("").refused("move(0, 0) = -2 move(-1, 0) = -2"));
        e.test(30, own, "it is no RUN: TURN, RUNS, TIRED and SEED stay, OVER too", t -> t.upon(RUNG)
            .due("move(5, 0) = 1 line(0) = 15012 status(1) = 1 status(2) = 1 status(7) = 2 status(9) = 1103527590"));
    }

    private static void pairAndTiredest(Edges e) {
        String pair = "The two PEOPLE (10 times the one and the other, the one below) whose HOLD beside each other is greatest "
            + "together, whatever their CHAINS, "
            + "of several the first. STUCK: fewer than two.";
        e.test(31, pair, "nobody and one are STUCK, two are told", t -> t.refused("pair() = -5")
            .upon(YardEdges.crowd(1, 0))
            .refused("pair() = -5")
            .upon(YardEdges.crowd(0, 1)).refused("pair() = -5")
            .upon(YardEdges.crowd(1, 1)).same("pair() = 1")
            .upon("one(1, 0, 0, 0, 0) one(0, 0, 0, 0, 0) ").same("pair() = 1"));
        e.test(31, pair, "of several the first; the first and the last two of eight", t -> t.upon(YardEdges.crowd(4, 4))
            .same("pair() = 1")
            .upon(YardEdges.crowd(4, 4) + "tell(6, 0, 6) tell(7, 0, 6) ").same("pair() = 67")
            .upon(YardEdges.crowd(4, 4) + "tell(7, 0, 6) ").same("pair() = 7")
            .upon(YardEdges.crowd(4, 4) + "tell(3, 0, 6) ")
            .same("pair() = 3")
            .upon(YardEdges.crowd(4, 4) + "tell(1, 0, 6) tell(5, 0, 6) ").same("pair() = 15"));
        e.test(31, pair, "SISTERS of two CHAINS hold 5 more beside each other", t -> t
            .upon("one(0, 0, 9, 0, 0) one(0, 0, 9, 0, 0) one(0, 3, 4, 0, 0) one(1, 3, 4, 0, 0) ").same("pair() = 1")
            .upon("one(0, 0, 9, 0, 0) one(0, 0, 9, 0, 0) one(0, 3, 4, 0, 0) one(1, 3, 5, 0, 0) ").same("pair() = 23"));
        String tiredest = "Who is most TIRED, of several the first. STUCK: nobody.";
        e.test(32, tiredest, "nobody is STUCK, one is told, and the second of two", t -> t.refused("tiredest() = -5")
            .upon(YardEdges.crowd(0, 1)).same("tiredest() = 0")
            .upon(YardEdges.crowd(1, 1) + "tell(1, 2, 1) ").same("tiredest() = 1")
            .upon(YardEdges.crowd(1, 1) + "tell(0, 2, 1) ")
            .same("tiredest() = 0"));
        e.test(32, tiredest, "of several the first; the first and the last of eight; TIRED 0 and 20", t -> t
            .upon(YardEdges.crowd(4, 4)).same("tiredest() = 0")
            .upon(YardEdges.crowd(4, 4) + "tell(7, 2, 1) ")
            .same("tiredest() = 7")
            .upon(YardEdges.crowd(4, 4) + "tell(7, 2, 20) tell(3, 2, 20) ").same("tiredest() = 3")
            .upon(YardEdges.crowd(4, 4) + "tell(0, 2, 19) tell(7, 2, 20) ").same("tiredest() = 7")
            .upon(YardEdges.crowd(4, 4) + "tell(2, 2, 5) move(3, 0) tell(3, 2, 5) ").same("tiredest() = 2"));
    }

    private static void runnerRefusals(Edge t, String name) {
        t.upon(SIX)
            .refused(name + "(-1, 0) = -2 " + name + "(6, 0) = -2 " + name + "(8, 0) = -2 " + name + "(" + LEAST + ", 0) = -2 " + name + "(" + MOST + ", 0) = -2")
            .refused(name + "(3, -1) = -2 " + name + "(3, 2) = -2 " + name + "(3, " + LEAST + ") = -2 " + name + "(3, " + MOST + ") = -2")
            .refused(name + "(0, 0) = -5 " + name + "(2, 1) = -5 " + name + "(0, 2) = -2 " + name + "(2, -1) = -2")
            .upon(SIX + "ask(4, 1) ").refused(name + "(3, 0) = -5 " + name + "(5, 1) = -5 " + name + "(0, 2) = -2")
            .upon(ALONE).refused(name + "(1, 0) = -2 " + name + "(0, 0) = -2")
            .upon("").refused(name + "(0, 0) = -2");
    }

    private static void spreadFor(Edges e) {
        String own = "The least SPREAD (1 to 10) by which ODDS of one at a JOINT of the CHAIN that calls are above 0; NONE. "
            + "BAD; STUCK: one of the CHAIN that calls. (NONE isn't refused.)";
        e.test(33, own, "1 and 10 are the least and the most, one FORCE less is NONE, whatever SPREAD is", t -> {
            for (int spread = 1; spread <= 10; spread += 9) {
                t.upon(TapeEdges.wall(20, spread)).same("spreadFor(2, 0) = 1")
                    .upon(TapeEdges.wall(11, spread))
                    .same("spreadFor(2, 0) = 1")
                    .upon(TapeEdges.wall(10, spread)).same("spreadFor(2, 0) = 2")
                    .upon(TapeEdges.wall(3, spread))
                    .same("spreadFor(2, 0) = 9")
                    .upon(TapeEdges.wall(2, spread)).same("spreadFor(2, 0) = 10")
                    .upon(TapeEdges.wall(1, spread))
                    .same("spreadFor(2, 0) = -1")
                    .upon(TapeEdges.wall(0, spread)).same("spreadFor(2, 0) = -1");
            }
        });
        e.test(33, own, "JOINT 0 and the last, the first and the last that is called; though it is OVER", t -> t.upon(SIX)
            .same("spreadFor(3, 0) = 1 spreadFor(3, 1) = 4 spreadFor(5, 0) = -1 spreadFor(4, 0) = 3")
            .upon(NOBODY_ELSE).same("spreadFor(2, 0) = 2")
            .upon(RUNG).same("spreadFor(0, 0) = 4"));
        e.test(33, own, "which refusal comes first: BAD one and JOINT, then STUCK", t -> runnerRefusals(t, "spreadFor"));
    }

    private static void yardsFor(Edges e) {
        String own = "The least YARDS (0 to 30) by which these ODDS are 1,000,000; NONE. BAD; STUCK likewise. (NONE isn't "
            + "refused.)";
        e.test(34, own, "0 and 30 are the least and the most, one FORCE less is NONE, whatever SPREAD and YARDS are", t -> {
            for (int spread = 1; spread <= 10; spread += 9) {
                for (String yards : new String[] {"", "ask(0, 29) ", "ask(0, 30) "}) {
                    t.upon(TapeEdges.wall(20, spread) + yards).same("yardsFor(2, 0) = 0")
                        .upon(TapeEdges.wall(11, spread) + yards)
                        .same("yardsFor(2, 0) = 0")
                        .upon(TapeEdges.wall(10, spread) + yards).same("yardsFor(2, 0) = 3")
                        .upon(TapeEdges.wall(1, spread) + yards).same("yardsFor(2, 0) = 30")
                        .upon(TapeEdges.wall(0, spread) + yards).same("yardsFor(2, 0) = -1");
                }
            }
        });
        e.test(34, own, "JOINT 0 and the last, the first and the last that is called; though it is OVER", t -> t.upon(SIX)
            .same("yardsFor(3, 0) = 0 yardsFor(3, 1) = 18 yardsFor(5, 0) = -1")
            .upon(NOBODY_ELSE).same("yardsFor(2, 0) = 12")
            .upon(RUNG).same("yardsFor(0, 0) = 18"));
        e.test(34, own, "which refusal comes first: BAD one and JOINT, then STUCK", t -> runnerRefusals(t, "yardsFor"));
    }
}
