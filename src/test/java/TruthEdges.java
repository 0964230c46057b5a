/** Boundaries of promises 44 to 53: orders, RUNS in truth by DRAWS, RESTS, what is kept, and the status. */
final class TruthEdges {
    private static final int LEAST = Integer.MIN_VALUE;
    private static final int MOST = Integer.MAX_VALUE;
    private static final String FIVE = YardEdges.FIVE;
    private static final String SIX = YardEdges.SIX;
    private static final String RUNG = JointEdges.RUNG;
    private static final String ALONE = JointEdges.ALONE;
    private static final String NOBODY_ELSE = JointEdges.NOBODY_ELSE;
    /** SEEDS by what the upper 16 bits of the next one are. */
    private static final int UPPER_0 = -59267453;
    private static final int UPPER_1 = -404969853;
    private static final int UPPER_32767 = -1861048701;
    private static final int UPPER_32768 = 2088216195;
    private static final int UPPER_65528 = -1588615549;
    private static final int UPPER_65529 = -1934317949;
    private static final int UPPER_65535 = 286434947;

    static void all(Edges e) {
        order(e);
        best(e);
        runRefusals(e);
        runComesOfIt(e);
        draws(e);
        runs(e);
        rest(e);
        againAndSeed(e);
        image(e);
        back(e);
        status(e);
        refusals(e);
    }

    private static void order(Edges e) {
        String own = "A CHAIN stands as the first n elements (as many as it has) of the ROW in SHELF s tell, by numbers: n. "
            + "BAD SHELF, CHAIN; OTHER; NOTHING; BAD: fewer elements, not just its PEOPLE.";
        e.test(44, own, "nobody, one and eight", t -> t.upon("row(0, 2, 0) row(1, 3, 5) ")
            .same("order(0, 0) = 0 order(1, 0) = 0 order(1, 1) = 0")
            .upon("one(1, 0, 5, 5, 5) fill 0 4: 0 row(1, 2, 0) ").same("order(1, 0) = 1 order(0, 1) = 0")
            .refused("order(1, 1) = -2")
            .upon(YardEdges.crowd(8, 0) + "fill 0 0: 7 6 5 4 3 2 1 0 ")
            .due("order(0, 0) = 8 line(0) = 176543210 oneOf(7, 6) = 0"));
        e.test(44, own, "as many elements as it has, one more, one fewer: BAD", t -> t
            .upon(FIVE + "fill 0 2: 2 0 1 fill 1 2: 2 0 1 9 fill 2 2: 2 0 ")
            .due("order(0, 0) = 3 line(0) = 1201 line(1) = 134").due("order(0, 1) = 3 line(0) = 1201")
            .refused("order(0, 2) = -2"));
        e.test(44, own, "not just its PEOPLE: twice the same, one of the other CHAIN, -1, no such one, none that fits", t -> {
            for (String row : new String[] {"0 0 1", "0 1 1", "2 2 2", "0 1 3", "4 0 1", "-1 0 1", "0 1 -1", "0 1 5", "0 1 "
                + "7", "0 1 8", "0 1 4294967298", "-4294967296 1 2", "0 1 " + Long.MAX_VALUE, Long.MIN_VALUE + " 1 2"}) {
                t.upon(FIVE + "fill 0 3: " + row + " ").refused("order(0, 0) = -2");
            }
        });
        e.test(44, own, "as they stand: nothing changes", t -> t.upon(FIVE + "fill 0 2: 0 1 2 fill 1 2: 3 4 ")
            .same("order(0, 0) = 3 order(1, 1) = 2"));
        e.test(44, own, "SHELF 0 and 7, CHAIN 0 and 1 are taken, -1, 8 and 2 are BAD", t -> t
            .upon(FIVE + "fill 0 2: 2 1 0 fill 7 2: 4 3 ").due("order(0, 0) = 3 line(0) = 1210")
            .due("order(1, 7) = 2 line(1) = 143")
            .refused("order(0, -1) = -2 order(0, 8) = -2 order(-1, 0) = -2 order(2, 0) = -2 order(0, " + LEAST + ") = -2 "
                + "order(" + MOST + ", 0) = -2"));
        e.test(44, own, "which refusal comes first: BAD SHELF and CHAIN, OTHER, NOTHING, BAD the elements", t -> t
            .upon(FIVE + "show(0, 1) row(2, 0, 1) ")
            .refused("order(2, 0) = -2 order(2, 1) = -2 order(-1, 1) = -2 order(2, 8) = -2")
            .refused("order(0, 0) = -3 order(1, 0) = -3 order(0, 1) = -4 order(1, 1) = -4 order(0, 2) = -2")
            .upon("")
            .refused("order(0, 0) = -4"));
    }

    private static void best(Edges e) {
        String own = "A CHAIN stands as STAND has it, in truth: its least STRENGTH (0 if there is no JOINT). BAD; FULL: more "
            + "than 7.";
        e.test(45, own, "nobody and one: 0, as they are", t -> t.same("best(0) = 0 best(1) = 0")
            .upon(YardEdges.crowd(1, 1))
            .same("best(0) = 0 best(1) = 0"));
        e.test(45, own, "of several the first, also of two", t -> t.upon(YardEdges.crowd(2, 0) + "move(1, 0) ")
            .due("line(0) = 110 best(0) = 8 line(0) = 101")
            .upon(YardEdges.crowd(3, 0) + "move(2, 0) ")
            .due("best(0) = 8 line(0) = 1012"));
        e.test(45, own, "seven are taken, eight are FULL", t -> t.upon(YardEdges.crowd(7, 1) + "move(6, 0) ")
            .due("best(0) = 8 line(0) = 10123456 line(1) = 17")
            .upon(YardEdges.crowd(8, 0)).refused("best(0) = -6")
            .same("best(1) = 0")
            .upon(YardEdges.crowd(0, 8)).refused("best(1) = -6"));
        e.test(45, own, "CHAIN 0 and 1 are taken, -1 and 2 are BAD", t -> t.upon(FIVE).same("best(0) = 14 best(1) = 14")
            .refused("best(-1) = -2 best(2) = -2 best(" + LEAST + ") = -2 best(" + MOST + ") = -2")
            .upon(YardEdges.crowd(8, 0)).refused("best(2) = -2"));
    }

    private static void runRefusals(Edges e) {
        String own = "A RUN in truth (side 0, 1): 1 TORN, 0 HELD. BAD one, JOINT, side; STUCK: one of the CHAIN that "
            + "calls, OVER.";
        e.test(46, own, "the first and the last that is called are taken, -1 and no such one are BAD", t -> t.upon(SIX)
            .due("run(3, 1, 0) = 0 line(0) = 10132").due("run(5, 0, 0) = 0 line(0) = 10512")
            .refused("run(-1, 0, 0) = -2 run(6, 0, 0) = -2 run(8, 0, 0) = -2 run(" + LEAST + ", 0, 0) = -2 "
                + "run(" + MOST + ", 0, 0) = -2")
            .upon("").refused("run(0, 0, 0) = -2 run(-1, 0, 0) = -2"));
        e.test(46, own, "JOINT 0 and the last are taken, -1 and the one behind are BAD", t -> t.upon(SIX)
            .due("run(5, 1, 0) = 0 line(0) = 10152").due("run(3, 0, 0) = 1 line(0) = 112")
            .refused("run(3, -1, 0) = -2 run(3, 2, 0) = -2 run(3, " + LEAST + ", 0) = -2 run(3, " + MOST + ", 0) = -2"));
        e.test(46, own, "side 0 and 1 are taken, -1 and 2 are BAD, HELD or TORN", t -> t.upon(SIX)
            .due("run(3, 0, 0) = 1 line(1) = 14530").due("run(3, 0, 1) = 1 line(1) = 14531")
            .due("run(5, 0, 1) = 0 line(0) = 10512")
            .refused("run(3, 0, -1) = -2 run(3, 0, 2) = -2 run(5, 0, -1) = -2 run(5, 0, 2) = -2 run(3, 0, " + LEAST + ") = -2 "
                + "run(3, 0, " + MOST + ") = -2"));
        e.test(46, own, "one of the CHAIN that calls is STUCK; which comes first: BAD one, JOINT, side", t -> t.upon(SIX)
            .refused("run(0, 0, 0) = -5 run(2, 1, 1) = -5 run(0, 2, 0) = -2 run(0, -1, 0) = -2 run(0, 0, 2) = -2 "
                + "run(2, 0, -1) = -2")
            .upon(SIX + "ask(4, 1) ").refused("run(3, 0, 0) = -5 run(5, 1, 0) = -5"));
        e.test(46, own, "OVER by BELL or by the CHAIN that is called is STUCK; by the CHAIN that calls there is no JOINT: BAD", t -> t
            .upon(RUNG).refused("run(0, 0, 0) = -5 run(3, 0, 0) = -5 run(0, 1, 0) = -2 run(0, 0, 2) = -2 run(6, 0, 0) = -2")
            .upon(NOBODY_ELSE).refused("run(2, 0, 0) = -5 run(0, 0, 0) = -5 run(2, 1, 0) = -2 run(2, 0, 2) = -2")
            .upon(ALONE)
            .refused("run(1, 0, 0) = -2"));
    }

    private static void runComesOfIt(Edges e) {
        String tired = "Both of that JOINT are 1 more TIRED then (20 at most), by either end.";
        e.test(46, tired, "TIRED 0, 19 and 20, HELD", t -> t.upon(SIX)
            .due("run(5, 0, 0) = 0 oneOf(0, 3) = 1 oneOf(1, 3) = 1 oneOf(2, 3) = 0 oneOf(5, 3) = 0 status(7) = 2")
            .upon("ask(0, 0) " + YardEdges.crowd(3, 3) + "tell(0, 2, 19) tell(1, 2, 20) tell(3, 1, 0) ")
            .due("run(3, 0, 0) = 0 oneOf(0, 3) = 20 oneOf(1, 3) = 20 oneOf(2, 3) = 0 oneOf(3, 3) = 0"));
        e.test(46, tired, "TIRED 0, 19 and 20, TORN", t -> t.upon(SIX)
            .due("run(3, 0, 0) = 1 oneOf(0, 3) = 1 oneOf(1, 3) = 1 oneOf(3, 3) = 0 status(7) = 2")
            .upon(YardEdges.crowd(3, 3) + "tell(0, 2, 19) tell(1, 2, 20) ")
            .due("run(3, 0, 0) = 1 oneOf(0, 3) = 20 oneOf(1, 3) = 20 oneOf(2, 3) = 0")
            .due("run(3, 0, 1) = 1 oneOf(0, 3) = 20 oneOf(1, 3) = 20"));
        String held = "HELD: the runner comes between them.";
        e.test(46, held, "at the first JOINT and the last, the first and the last of the own CHAIN, to seven and one", t -> t
            .upon(SIX).due("run(5, 0, 0) = 0 line(0) = 10512 line(1) = 134").due("run(5, 1, 0) = 0 line(0) = 10152 line(1) = 134")
            .due("run(3, 1, 0) = 0 line(0) = 10132 line(1) = 145")
            .upon(YardEdges.crowd(6, 2))
            .due("run(6, 0, 0) = 0 line(0) = 10612345 line(1) = 17").due("run(7, 4, 0) = 0 line(0) = 10123475 line(1) = 16"));
        String torn = "TORN: the runner goes to the end of the own CHAIN, and one of the two (side 0 the left, at PLACE j; 1 "
            + "the right) comes behind.";
        String weak = "one(0, 0, 0, 20, 0) ".repeat(3) + "one(1, 0, 0, 20, 0) ".repeat(3);
        e.test(46, torn, "at the first JOINT and the last, of either side; the first and the last of the own CHAIN", t -> t
            .upon(weak).due("run(3, 0, 0) = 1 line(0) = 112 line(1) = 14530")
            .due("run(3, 0, 1) = 1 line(0) = 102 line(1) = 14531")
            .due("run(3, 1, 0) = 1 line(0) = 102 line(1) = 14531").due("run(3, 1, 1) = 1 line(0) = 101 line(1) = 14532")
            .due("run(5, 1, 1) = 1 line(0) = 101 line(1) = 13452"));
        e.test(46, torn, "to one and seven", t -> t.upon("one(0, 0, 0, 20, 0) ".repeat(2) + "one(1, 0, 0, 20, 0) ".repeat(6))
            .due("run(2, 0, 1) = 1 line(0) = 10 line(1) = 13456721 over() = 1 won() = 1"));
        e.test(46, "TURN is the other's then; RUNS 1 more.", "from TURN 0 and from TURN 1, to BELL", t -> t
            .upon(SIX + "ask(3, 2) ")
            .due("run(5, 0, 0) = 0 status(2) = 1 status(1) = 1 over() = 0 run(1, 0, 0) = 0 status(2) = 0 status(1) = 2 "
                + "over() = 1"));
    }

    private static String seeded(int weight, int spread, int seed) {
        return TapeEdges.wall(weight, spread) + "seed(" + seed + ") ";
    }

    private static void draws(Edges e) {
        String torn = "IN TRUTH a RUN is TORN, if FORCE and a DRAW below SPREAD are above STRENGTH.";
        e.test(46, torn, "the least DRAW, 0: FORCE as STRENGTH is HELD, one more TORN", t -> t.upon(seeded(10, 10, UPPER_0))
            .due("run(2, 0, 0) = 0")
            .upon(seeded(11, 10, UPPER_0)).due("run(2, 0, 0) = 1")
            .upon(seeded(10, 10, UPPER_1)).due("run(2, 0, 0) = 1")
            .upon(seeded(9, 10, UPPER_1)).due("run(2, 0, 0) = 0"));
        e.test(46, torn, "the most DRAW, 9, and 8", t -> t.upon(seeded(2, 10, UPPER_65529)).due("run(2, 0, 0) = 1")
            .upon(seeded(1, 10, UPPER_65529)).due("run(2, 0, 0) = 0")
            .upon(seeded(2, 10, UPPER_65528)).due("run(2, 0, 0) = 0")
            .upon(seeded(3, 10, UPPER_65528)).due("run(2, 0, 0) = 1"));
        e.test(46, torn, "SPREAD 1 draws 0 alone, and SEED goes on", t -> t.upon(seeded(10, 1, UPPER_65529))
            .due("run(2, 0, 0) = 0 status(9) = -458752")
            .upon(seeded(11, 1, UPPER_0)).due("run(2, 0, 0) = 1 status(9) = 0"));
        String draw = "A DRAW below n: SEED (1 at first) becomes SEED times 1103515245, and 12345 (an int, wrapping); its "
            + "upper 16 bits, no sign, modulo n.";
        e.test(46, draw, "SEED 1, 0, -1, the most and the least wrap around", t -> t.upon(seeded(0, 10, 1))
            .due("run(2, 0, 0) = 0 status(9) = 1103527590")
            .upon(seeded(0, 10, 0)).due("run(2, 0, 0) = 0 status(9) = 12345")
            .upon(seeded(0, 10, -1)).due("run(2, 0, 0) = 0 status(9) = -1103502900")
            .upon(seeded(0, 10, MOST))
            .due("run(2, 0, 0) = 0 status(9) = 1043980748")
            .upon(seeded(0, 10, LEAST)).due("run(2, 0, 0) = 0 status(9) = -2147471303"));
        e.test(46, draw, "the upper 16 bits without a sign: 32767, 32768 and 65535, modulo 10 and 7", t -> t
            .upon(seeded(4, 10, UPPER_32767)).due("run(2, 0, 0) = 1")
            .upon(seeded(3, 10, UPPER_32767)).due("run(2, 0, 0) = 0")
            .upon(seeded(3, 10, UPPER_32768)).due("run(2, 0, 0) = 1")
            .upon(seeded(2, 10, UPPER_32768)).due("run(2, 0, 0) = 0")
            .upon(seeded(6, 10, UPPER_65535)).due("run(2, 0, 0) = 1")
            .upon(seeded(5, 10, UPPER_65535)).due("run(2, 0, 0) = 0")
            .upon(seeded(10, 7, UPPER_65535)).due("run(2, 0, 0) = 1")
            .upon(seeded(9, 7, UPPER_65535)).due("run(2, 0, 0) = 0"));
        e.test(46, draw, "a RUN that is refused makes none", t -> t.upon(seeded(11, 10, 77))
            .refused("run(2, 1, 0) = -2 run(0, 0, 0) = -5 runs(0) = -2").same("status(9) = 77"));
    }

    private static void runs(Edges e) {
        String own = "n RUNS (1 to 40) in truth by rule 0 (CALL, AT, TAKE), until it is OVER: how many were TORN. BAD.";
        String strong = ChoiceEdges.STRONG + "ask(3, 99) ";
        e.test(47, own, "1 and 40 are taken, 0 and 41 are BAD", t -> t.upon(strong).due("runs(1) = 0 status(1) = 1 status(2) = 1")
            .due("runs(40) = 0 status(1) = 40 status(2) = 0")
            .refused("runs(0) = -2 runs(41) = -2 runs(-1) = -2 runs(" + LEAST + ") = -2 runs(" + MOST + ") = -2"));
        e.test(47, own, "OVER already: 0, no RUN, no DRAW, not refused", t -> t.same("runs(1) = 0 runs(40) = 0")
            .upon(ALONE)
            .same("runs(40) = 0")
            .upon(NOBODY_ELSE).same("runs(1) = 0")
            .upon(RUNG).same("runs(40) = 0")
            .refused("runs(0) = -2 runs(41) = -2"));
        e.test(47, own, "until BELL, one RUN ahead of it and just then", t -> t.upon(strong + "ask(3, 5) ")
            .due("runs(4) = 0 status(1) = 4 over() = 0").due("runs(5) = 0 status(1) = 5 over() = 1")
            .due("runs(40) = 0 status(1) = 5")
            .upon(strong + "ask(3, 1) ").due("runs(40) = 0 status(1) = 1 status(9) = 1103527590"));
        // 3 is the lightest, but has more FORCE by a.
        e.test(47, own, "the least ODDS are called, not the least WEIGHT", t -> t
            .upon("one(0, 0, 8, 9, 0) ".repeat(3) + "one(1, 4, 9, 7, 9) one(1, 0, 9, 8, 0) one(1, 0, 9, 20, 0) ")
            .due("runs(1) = 0 line(0) = 10412"));
        e.test(47, own, "until a CHAIN has one: all TORN", t -> t
            .upon("one(0, 0, 0, 20, 0) ".repeat(2) + "one(1, 0, 0, 20, 0) ".repeat(2))
            .due("runs(40) = 1 status(1) = 1 over() = 1 line(0) = 11 line(1) = 1320"));
        e.test(47, own, "HELD and TORN by the same ODDS, as each DRAW has it", t -> t
            .upon(TapeEdges.wall(10, 10) + "tell(3, 1, 10) seed(" + UPPER_0 + ") ").due("runs(1) = 0 line(0) = 1021")
            .upon(TapeEdges.wall(10, 10) + "tell(3, 1, 10) seed(" + UPPER_1 + ") ").due("runs(1) = 1 line(1) = 1320"));
    }

    private static void rest(Edges e) {
        String sentence = "A REST: all are n less TIRED (0 at least).";
        e.test(48, sentence, "n one below TIRED, TIRED, one above", t -> t
            .upon(FIVE + "tell(0, 2, 6) tell(2, 2, 20) tell(4, 2, 1) ")
            .due("rest(5) = 3 oneOf(0, 3) = 1 oneOf(2, 3) = 15 oneOf(4, 3) = 0 oneOf(1, 3) = 0")
            .due("rest(6) = 4 oneOf(0, 3) = 0 oneOf(2, 3) = 14").due("rest(7) = 4 oneOf(0, 3) = 0 oneOf(2, 3) = 13")
            .due("rest(19) = 4 oneOf(2, 3) = 1").due("rest(20) = 5 status(7) = 0"));
        String own = "A REST of n (0 to 20): how many aren't TIRED then. BAD.";
        e.test(48, own, "0 and 20 are taken, -1 and 21 are BAD", t -> t.upon(FIVE + "tell(0, 2, 6) tell(4, 2, 20) ")
            .same("rest(0) = 3").due("rest(20) = 5")
            .refused("rest(-1) = -2 rest(21) = -2 rest(" + LEAST + ") = -2 rest(" + MOST + ") = -2"));
        e.test(48, own, "nobody, and all eight, none or all of them TIRED", t -> t.same("rest(0) = 0 rest(20) = 0")
            .refused("rest(-1) = -2 rest(21) = -2")
            .upon(YardEdges.crowd(4, 4)).same("rest(0) = 8 rest(20) = 8")
            .upon(YardEdges.crowd(4, 4) + "tell(0, 2, 20) tell(1, 2, 20) tell(2, 2, 20) tell(3, 2, 20) tell(4, 2, 20) "
                + "tell(5, 2, 20) tell(6, 2, 20) tell(7, 2, 20) ")
            .due("rest(0) = 0 rest(19) = 0 status(7) = 8 rest(1) = 8 status(7) = 0"));
    }

    private static void againAndSeed(Edges e) {
        String again = "RUNS are 0, TURN is 0, nobody is TIRED (all stay where they are): RUNS ahead.";
        e.test(49, again, "nobody, and where nothing is to be changed", t -> t.same("again() = 0")
            .upon(FIVE).same("again() = 0")
            .upon("ask(4, 1) ").due("again() = 0 status(2) = 0"));
        e.test(49, again, "behind BELL it isn't OVER any more, and TIRED 20 is 0", t -> t.upon(RUNG + "tell(5, 2, 20) ")
            .due("over() = 1 again() = 1 status(1) = 0 status(2) = 0 status(7) = 0 over() = 0 line(0) = 10512 line(1) = 134 "
                + "status(6) = 1 again() = 0"));
        e.test(49, again, "the most RUNS, 99", t -> t.upon(ChoiceEdges.STRONG + "ask(3, 99) runs(40) runs(40) runs(40) ")
            .due("again() = 99 status(1) = 0 status(7) = 0"));
        String seed = "SEED becomes v: the one ahead.";
        e.test(50, seed, "1 at first, the least, the most, 0 and -1", t -> t
            .due("seed(" + LEAST + ") = 1 status(9) = " + LEAST + " seed(" + MOST + ") = " + LEAST + " seed(0) = " + MOST + " "
                + "seed(-1) = 0 status(9) = -1 seed(1) = -1")
            .same("seed(1) = 1"));
    }

    private static void image(Edges e) {
        String own = "All is kept, but THE TAPE, SHELVES and REFUSALS: 1.";
        e.test(51, own, "nobody and a full yard are kept", t -> t.bare().same("status(15) = 0")
            .due("image() = 1 one(0, 0, 5, 5, 5) = 0 back() = 1 status(0) = 0 chainOf(0, NONE) = 0")
            .upon(YardEdges.crowd(4, 4) + "tell(7, 2, 20) ")
            .due("image() = 1 tell(7, 2, 0) = 20 move(0, 3) = 0 back() = 1 status(0) = 8 oneOf(7, 3) = 20 line(0) = 10123 "
                + "line(1) = 14567"));
        e.test(51, own, "it changes nothing that can be seen; the later image is the one that is kept", t -> t
            .upon(RUNG + "row(0, 2, 2) show(1, 5) ")
            .due("image() = 1 status(0) = 6 status(1) = 1 status(9) = 1103527590 holds(1) = 15")
            .bare()
            .upon(FIVE + "image() ask(0, 30) ").due("image() = 1 ask(0, 0) = 30 back() = 1 status(3) = 30"));
        e.test(51, own, "a full TAPE, full SHELVES and REFUSALS are not kept", t -> t.bare()
            .upon("feed '" + " ".repeat(250) + "' row(0, 0, 1) show(9, 0) image() wipe() feed(97) feed(98) show(0, NONE) "
                + "row(7, 1, 2) set(7, 1, 5) show(9, 0) ")
            .due("back() = 1 status(8) = 2 holds(0) = -1 holds(7) = 1 element(7, 1) = 5 status(10) = 1 status(12) = 2"));
    }

    private static void back(Edges e) {
        String own = "All is again as it was kept (SHELVES with somebody hold those of the same numbers, or NOTHING): 1. "
            + "STUCK: nothing was.";
        e.test(52, own, "nothing kept is STUCK, once kept it is taken, and again", t -> t.bare().refused("back() = -5")
            .upon(FIVE)
            .refused("back() = -5")
            .upon(FIVE + "image() ")
            .due("back() = 1 back() = 1 status(0) = 5 ask(0, 3) = 9 back() = 1 status(3) = 9"));
        e.test(52, own, "SHELVES with somebody: the last who was kept stays, the first who wasn't is NOTHING", t -> t.bare()
            .upon(FIVE + "image() one(0, 0, 5, 5, 5) one(1, 0, 5, 5, 5) show(0, 4) show(1, 5) show(2, 6) show(3, 0) "
                + "row(4, 0, 1) show(7, 5) ")
            .due("back() = 1 holds(0) = 14 holds(1) = -1 holds(2) = -1 holds(3) = 10 holds(4) = 0 holds(5) = -1 holds(7) = -1 "
                + "status(10) = 3"));
        e.test(52, own, "back to nobody: no SHELF holds somebody, ROWS stay; back to eight: all stay", t -> t.bare()
            .upon("image() " + YardEdges.crowd(4, 4) + "show(0, 0) show(7, 7) row(1, 2, 3) set(1, 0, 8) ")
            .due("back() = 1 status(0) = 0 holds(0) = -1 holds(7) = -1 holds(1) = 2 element(1, 0) = 8 status(10) = 1")
            .upon(YardEdges.crowd(4, 4) + "image() show(0, 0) show(7, 7) ")
            .due("back() = 1 status(0) = 8 holds(0) = 10 holds(7) = 17"));
        e.test(52, own, "from more, from fewer and from others to what was kept", t -> t.bare()
            .upon(RUNG + "image() again() ask(0, 30) ask(1, 10) ask(2, 1) ask(3, 99) seed(5) tell(0, 0, 0) tell(0, 1, 0) "
                + "one(0, 0, 1, 1, 1) move(0, 4) ")
            .due("back() = 1 status(0) = 6 status(1) = 1 status(2) = 1 status(3) = 9 status(4) = 1 status(5) = 0 status(6) = 1 "
                + "status(7) = 2 status(9) = 1103527590 oneOf(0, 1) = 8 oneOf(0, 2) = 9 oneOf(0, 3) = 1 line(0) = 10512 "
                    + "line(1) = 134 over() = 1"));
    }

    private static void status(Edges e) {
        String own = "PEOPLE (0), RUNS (1), TURN (2), YARDS (3), SPREAD (4), WRISTS (5), BELL (6), all TIRED together (7), THE "
            + "TAPE's size (8), SEED (9), SHELVES that hold something (10); "
            + "12 to 16: REFUSALS -2 to -6. NONE another what.";
        e.test(53, own, "what 0, 10, 12 and 16 are told; -1, 11 and 17 are NONE and not refused", t -> t
            .upon(SIX + "row(0, 0, 0) ").same("status(0) = 6 status(10) = 1 status(12) = 0 status(16) = 0")
            .same("status(-1) = -1 status(11) = -1 status(17) = -1 status(-2) = -1 status(" + LEAST + ") = -1 "
                + "status(" + MOST + ") = -1"));
        String tired = "";
        String shown = "";
        for (int i = 0; i < 8; i++) {
            tired += "tell(" + i + ", 2, 20) ";
            shown += "show(" + i + ", " + i + ") ";
        }
        String most = YardEdges.crowd(4, 4) + tired + shown + "ask(0, 30) ask(1, 10) ask(2, 1) ask(3, 99) ask(4, 1) "
            + "seed(" + LEAST + ") feed '" + " ".repeat(250) + "' ";
        e.test(53, own, "the most of each", t -> t.upon(most)
            .same("status(0) = 8 status(1) = 0 status(2) = 1 status(3) = 30 status(4) = 10 status(5) = 1 status(6) = 99 "
                + "status(7) = 160 status(8) = 250 status(9) = " + LEAST + " status(10) = 8"));
        e.test(53, own, "the least of each", t -> t.bare()
            .upon("ask(0, 0) ask(3, 1) seed(0) ")
            .same("status(0) = 0 status(1) = 0 status(2) = 0 status(3) = 0 status(4) = 1 status(5) = 0 status(6) = 1 "
                + "status(7) = 0 status(8) = 0 status(9) = 0 status(10) = 0"));
    }

    private static void refusals(Edges e) {
        String sentence = "REFUSALS (the call answers the number; nothing changes but how many there were; the first that fits "
            + "as each line has them): -2 BAD a number that may not be, nothing of that number. "
            + "-3 OTHER: a SHELF that holds another thing than is wanted. -4 NOTHING: a SHELF that holds NOTHING. -5 STUCK: it "
                + "can't be as things stand. -6 FULL.";
        String each = "show(0, 0) show(9, 0) show(9, 0) show(9, 0) set(0, 0, 0) set(0, 0, 0) set(1, 0, 0) one(0, 0, 5, 5, 5) "
            + "one(0, 0, 5, 5, 5) call() call() call() call() ";
        e.test(53, sentence, "each is counted by its own number, from 0 on", t -> t
            .same("status(12) = 0 status(13) = 0 status(14) = 0 status(15) = 0 status(16) = 0")
            .upon(YardEdges.crowd(8, 0) + each)
            .same("status(12) = 3 status(13) = 2 status(14) = 1 status(15) = 4 status(16) = 2"));
        e.test(53, sentence, "one of each once more", t -> t.upon(YardEdges.crowd(8, 0) + each)
            .refused("show(8, NONE) = -2 set(0, 0, 0) = -3 set(1, 0, 0) = -4 call() = -5 one(0, 0, 5, 5, 5) = -6"));
        e.test(53, "(Calls that tell what may be below 0 answer -1000 and the number.)",
            "-1002 and -1005 are counted as -2 and -5", t -> t
            .upon("game(3) swap(2, 0) game(0) swap(0, 0) swap(0, 1) ")
            .same("status(12) = 2 status(15) = 3 status(13) = 0 status(14) = 0 status(16) = 0"));
        e.test(53, sentence, "again, back and seed leave the counts", t -> t
            .upon(YardEdges.crowd(8, 0) + each + "image() again() seed(3) back() wipe() rest(20) ")
            .same("status(12) = 3 status(13) = 2 status(14) = 1 status(15) = 4 status(16) = 2"));
        e.test(53, sentence, "a FAULT is BAD", t -> t.upon("feed 'x' yard() yard() ").same("status(12) = 2"));
    }
}
