/** Boundaries of promises 35 to 40: leads, the GAME, SISTERS TOGETHER, SWAPS, who COULD. */
final class AheadEdges {
    private static final int LEAST = Integer.MIN_VALUE;
    private static final int MOST = Integer.MAX_VALUE;
    private static final String FIVE = YardEdges.FIVE;
    private static final String RUNG = JointEdges.RUNG;
    private static final String ALONE = JointEdges.ALONE;
    private static final String NOBODY_ELSE = JointEdges.NOBODY_ELSE;

    static void all(Edges e) {
        leads(e);
        game(e);
        first(e);
        together(e);
        swap(e);
        could(e);
    }

    private static void leads(Edges e) {
        String own = "How often, behind RUNS of a PLAY by a rule (all of them, one after the other), the CHAIN that has more "
            + "isn't the one that had more "
            + "behind the last RUN of it behind which one had more (the first such doesn't count). BAD.";
        String strong = "ask(0, 0) " + "one(0, 0, 20, 0, 0) ".repeat(3) + "one(1, 0, 20, 0, 0) ".repeat(4);
        e.test(35, own, "no RUN and one RUN: 0", t -> t.same("leads(0) = 0 leads(1) = 0")
            .upon(ALONE).same("leads(0) = 0")
            .upon(NOBODY_ELSE).same("leads(1) = 0")
            .upon(RUNG).same("leads(0) = 0")
            .upon(strong + "ask(3, 1) ").same("leads(0) = 0 leads(1) = 0"));
        // All HELD: 4 and 3, 3 and 4, by turns.
        e.test(35, own, "behind every RUN another: one less than there are RUNS", t -> t.upon(strong + "ask(3, 2) ")
            .same("leads(0) = 1 leads(1) = 1")
            .upon(strong).same("leads(0) = 19 leads(1) = 19")
            .upon(strong + "ask(3, 99) ").same("leads(0) = 98 leads(1) = 98")
            .upon(strong + "runs(18) ").same("leads(0) = 1"));
        // By turns 4 and 2, 3 and 3: neither has more behind every second RUN.
        e.test(35, own, "behind a RUN by which neither has more, the same again is none", t -> t.upon(ChoiceEdges.STRONG)
            .same("leads(0) = 0 leads(1) = 0"));
        // 3 is HELD, goes back, and tears the JOINT that it made TIRED: 4 and 2, 3 and 3, 2 and 4.
        String torn = "ask(0, 0) " + "one(0, 0, 5, 20, 0) ".repeat(3) + "one(1, 0, 20, 8, 0) " + "one(1, 0, 20, 20, 0) ".repeat(2);
        e.test(35, own, "behind a RUN by which neither has more, the other is one", t -> t.upon(torn + "ask(3, 3) ")
            .same("leads(0) = 1 leads(1) = 1")
            .upon(torn + "ask(3, 2) ").same("leads(0) = 0 leads(1) = 0"));
        e.test(35, own, "one PLAY behind another is the same", t -> t.upon(strong + "ask(3, 3) ")
            .due("leads(0) = 2 leads(0) = 2 leads(1) = 2 leads(0) = 2"));
        e.test(35, own, "rule 0 and 1 are taken, -1 and 2 are BAD", t -> t.upon(strong)
            .refused("leads(-1) = -2 leads(2) = -2 leads(" + LEAST + ") = -2 leads(" + MOST + ") = -2")
            .upon("").refused("leads(-1) = -2 leads(2) = -2"));
    }

    private static void game(Edges e) {
        String sentence = "GAME of d runs (0 to 2), SPREAD as if it were 1: the CHAIN whose TURN it is calls so that what it "
            + "has in the end more than the other (PEOPLE) is most, "
            + "the runner's CHAIN chooses JOINT and side so that it is least; that difference (it may be below 0); the one "
                + "called first, of several the first by numbers.";
        String weak = "one(0, 0, 0, 20, 0) ".repeat(2) + "one(1, 0, 0, 20, 0) ".repeat(6);
        e.test(36, sentence, "d 0, 1 and 2: the most, 6, and the least, -6", t -> t.upon(YardEdges.crowd(6, 2))
            .same("game(0) = 4 game(1) = 6 game(2) = 6")
            .upon(weak).same("game(0) = -4 game(1) = -6 game(2) = -6")
            .upon(weak + "ask(4, 1) ")
            .same("game(0) = 4 game(1) = 2 game(2) = 4"));
        e.test(36, sentence, "SPREAD as if it were 1: FORCE as STRENGTH doesn't tear, one more does", t -> t
            .upon(TapeEdges.wall(10, 10) + "tell(3, 1, 10) ").same("game(1) = 2 first(1) = 2")
            .upon(TapeEdges.wall(11, 10) + "tell(3, 1, 11) ").same("game(1) = -2 first(1) = 2")
            .upon(TapeEdges.wall(11, 1) + "tell(3, 1, 10) ").same("game(1) = 2 first(1) = 3"));
        e.test(36, sentence, "it ends where it is OVER: by BELL ahead of d, by a CHAIN of one", t -> t.upon(YardEdges.SIX)
            .same("game(1) = 2 game(2) = 0")
            .upon(YardEdges.SIX + "ask(3, 1) ").same("game(0) = 0 game(1) = 2 game(2) = 2")
            .upon(YardEdges.SIX + "ask(3, 2) ").same("game(2) = 0")
            .upon(FIVE).same("game(1) = 3 game(2) = 3"));
        // One of CHAIN 0 is light: if the heavy one goes, that one is called next and HELD.
        String heavies = "ask(0, 0) one(0, 0, 1, %d, 0) one(0, 0, 5, %d, 0) one(0, 0, 20, 20, 0) one(1, 0, 5, 10, 0) "
            + "one(1, 0, 5, 10, 0) ";
        e.test(36, sentence, "least by the left one, and by the right one", t -> t.upon(String.format(heavies, 0, 20))
            .same("game(1) = -1 game(2) = -3")
            .upon(String.format(heavies, 20, 0)).same("game(1) = -1 game(2) = -3")
            .upon(String.format(heavies, 20, 20)).same("game(1) = -1 game(2) = 1"));
        String own = "GAME: the difference. -1002; -1005: OVER (of d 0, too).";
        e.test(36, own, "d 0 and 2 are taken, -1 and 3 are -1002", t -> t.upon(FIVE).same("game(0) = 1 game(2) = 3")
            .refused("game(-1) = -1002 game(3) = -1002 game(" + LEAST + ") = -1002 game(" + MOST + ") = -1002"));
        e.test(36, own, "OVER is -1005, of d 0 too; which comes first: -1002", t -> t
            .refused("game(0) = -1005 game(1) = -1005 game(2) = -1005 game(-1) = -1002 game(3) = -1002")
            .upon(ALONE).refused("game(0) = -1005 game(2) = -1005")
            .upon(NOBODY_ELSE).refused("game(0) = -1005 game(1) = -1005")
            .upon(RUNG).refused("game(0) = -1005 game(2) = -1005 game(3) = -1002"));
    }

    private static void first(Edges e) {
        String own = "Who is called first in it (d 1, 2). BAD; STUCK: OVER.";
        e.test(37, own, "d 1 and 2 are taken, 0 and 3 are BAD", t -> t.upon(FIVE).same("first(1) = 4 first(2) = 4")
            .refused("first(0) = -2 first(3) = -2 first(-1) = -2 first(" + LEAST + ") = -2 first(" + MOST + ") = -2"));
        e.test(37, "the one called first, of several the first by numbers.",
            "of several the first by numbers, not by PLACES; the last of eight", t -> t
            .upon(YardEdges.crowd(2, 6)).same("first(1) = 2 first(2) = 2")
            .upon(YardEdges.crowd(2, 6) + "move(7, 0) ").same("first(1) = 2 first(2) = 2")
            .upon("one(0, 0, 4, 0, 0) one(0, 0, 4, 0, 0) " + "one(1, 0, 0, 20, 0) ".repeat(5) + "one(1, 0, 0, 0, 0) ")
            .same("first(1) = 7")
            .upon(YardEdges.crowd(6, 2) + "ask(4, 1) ").same("first(1) = 0 first(2) = 0"));
        e.test(37, own, "OVER is STUCK; which comes first: BAD", t -> t
            .refused("first(1) = -5 first(2) = -5 first(0) = -2 first(3) = -2")
            .upon(ALONE).refused("first(1) = -5 first(2) = -5")
            .upon(NOBODY_ELSE).refused("first(1) = -5 first(0) = -2")
            .upon(RUNG)
            .refused("first(1) = -5 first(2) = -5 first(3) = -2"));
    }

    private static String sisters(int n, int chain, int others) {
        return ("one(" + chain + ", 3, 5, 5, 0) ").repeat(n) + ("one(" + chain + ", 1, 5, 5, 0) ").repeat(others);
    }

    private static void together(Edges e) {
        String sentence = "TOGETHER: in how many orders of a CHAIN (7 at most) some two SISTERS stand side by side.";
        e.test(38, sentence, "no SISTER and one: 0; two; all; just so many that they must", t -> t.upon(sisters(0, 0, 7))
            .same("together(0) = 0")
            .upon(sisters(1, 0, 6)).same("together(0) = 0")
            .upon(sisters(2, 0, 5)).same("together(0) = 1440")
            .upon(sisters(4, 0, 3)).same("together(0) = 4896")
            .upon(sisters(5, 0, 2)).same("together(0) = 5040")
            .upon(sisters(7, 0, 0)).same("together(0) = 5040")
            .upon(sisters(2, 0, 1)).same("together(0) = 4")
            .upon(sisters(2, 1, 0)).same("together(1) = 2 together(0) = 0"));
        String own = "TOGETHER. BAD; FULL: more than 7.";
        e.test(38, own, "nobody and one: 0; seven are taken, eight are FULL", t -> t.same("together(0) = 0 together(1) = 0")
            .upon(sisters(1, 1, 0)).same("together(1) = 0")
            .upon(sisters(3, 1, 4)).same("together(1) = 3600")
            .upon(sisters(8, 0, 0)).refused("together(0) = -6")
            .same("together(1) = 0")
            .upon(sisters(0, 1, 8)).refused("together(1) = -6"));
        e.test(38, own, "CHAIN 0 and 1 are told, -1 and 2 are BAD", t -> t.upon(FIVE).same("together(0) = 4 together(1) = 0")
            .refused("together(-1) = -2 together(2) = -2 together(" + LEAST + ") = -2 together(" + MOST + ") = -2")
            .upon(sisters(8, 0, 0)).refused("together(2) = -2 together(-1) = -2"));
    }

    private static void swap(Edges e) {
        String sentence = "SWAP of a CHAIN: of all pairs of PLACES side by side the one by whose change its least STRENGTH "
            + "would be greatest, of several the first; "
            + "by how much more that is (it may be below 0).";
        String three = "one(0, 0, 1, 0, 0) one(0, 0, 5, 0, 0) one(0, 0, 9, 0, 0) ";
        e.test(39, sentence, "above 0, 0 and below 0; of several the first", t -> t.upon(three)
            .same("swap(0, 0) = 1 swap(0, 1) = 4")
            .upon(YardEdges.crowd(3, 0)).same("swap(0, 0) = 0 swap(0, 1) = 0")
            .upon(three + "move(2, 1) ").same("swap(0, 0) = 0 swap(0, 1) = -4"));
        e.test(39, sentence, "the first PLACE and the last of two and of eight", t -> t.upon(YardEdges.crowd(2, 0))
            .same("swap(0, 0) = 0 swap(0, 1) = 0")
            .upon(YardEdges.crowd(8, 0)).same("swap(0, 0) = 0 swap(0, 1) = 0")
            .upon(YardEdges.crowd(8, 0) + "tell(6, 0, 0) tell(7, 0, 20) ").same("swap(0, 0) = 6 swap(0, 1) = 3")
            .upon(YardEdges.crowd(8, 0) + "tell(1, 0, 0) tell(0, 0, 20) ").same("swap(0, 0) = 0 swap(0, 1) = 3"));
        String own = "SWAP: the first PLACE (what 0), by how much more (1). -1002; -1005: fewer than 2.";
        e.test(39, own, "nobody and one are -1005, two are taken", t -> t.refused("swap(0, 0) = -1005 swap(1, 1) = -1005")
            .upon(YardEdges.crowd(2, 1)).same("swap(0, 0) = 0 swap(0, 1) = 0").refused("swap(1, 0) = -1005 swap(1, 1) = -1005"));
        e.test(39, own, "CHAIN 0 and 1, what 0 and 1 are taken, -1 and 2 are -1002", t -> t.upon(FIVE)
            .same("swap(0, 0) = 0 swap(0, 1) = -2 swap(1, 0) = 0 swap(1, 1) = 0")
            .refused("swap(-1, 0) = -1002 swap(2, 0) = -1002 swap(0, -1) = -1002 swap(0, 2) = -1002 "
                + "swap(" + LEAST + ", 0) = -1002 swap(0, " + MOST + ") = -1002"));
        e.test(39, own, "which refusal comes first: -1002, then -1005", t -> t
            .refused("swap(0, 2) = -1002 swap(2, 0) = -1002 swap(1, -1) = -1002 swap(1, 1) = -1005"));
    }

    private static void could(Edges e) {
        String sentence = "COULD at a JOINT: who of the CHAIN that is called can tear it (ODDS above 0; bits); MUST: who does "
            + "for sure.";
        e.test(40, sentence, "ODDS 0, the least above 0, the most below sure, sure", t -> t.upon(TapeEdges.wall(1, 10))
            .same("could(0, 0) = 0 could(0, 1) = 0")
            .upon(TapeEdges.wall(2, 10)).same("could(0, 0) = 4 could(0, 1) = 0")
            .upon(TapeEdges.wall(10, 10)).same("could(0, 0) = 4 could(0, 1) = 0")
            .upon(TapeEdges.wall(11, 10))
            .same("could(0, 0) = 4 could(0, 1) = 4")
            .upon(TapeEdges.wall(10, 1)).same("could(0, 0) = 0 could(0, 1) = 0")
            .upon(TapeEdges.wall(11, 1))
            .same("could(0, 0) = 4 could(0, 1) = 4"));
        e.test(40, sentence, "nobody, the first bit, the last bit, all bits", t -> t.upon(YardEdges.crowd(2, 0))
            .same("could(0, 0) = 0 could(0, 1) = 0")
            .upon(YardEdges.crowd(2, 6)).same("could(0, 0) = 0")
            .upon(YardEdges.crowd(2, 6) + "tell(7, 1, 20) ").same("could(0, 0) = 128 could(0, 1) = 128")
            .upon("one(0, 0, 5, 20, 0) ".repeat(6) + "one(1, 0, 5, 5, 0) ".repeat(2) + "ask(4, 1) ").same("could(0, 0) = 63")
            .upon("one(0, 0, 5, 5, 0) ".repeat(2) + "one(1, 0, 5, 20, 0) ".repeat(6)).same("could(0, 0) = 252 could(0, 1) = 252")
            .upon("one(0, 0, 5, 20, 0) one(1, 0, 5, 5, 0) one(1, 0, 5, 5, 0) ask(4, 1) ").same("could(0, 0) = 1"));
        String own = "COULD (sure 0), MUST (1; bits). BAD: also no such JOINT of the CHAIN that calls.";
        e.test(40, own, "JOINT 0 and the last are told, -1 and the one behind are BAD", t -> t.upon(FIVE)
            .same("could(0, 0) = 8 could(1, 0) = 0")
            .refused("could(-1, 0) = -2 could(2, 0) = -2 could(" + LEAST + ", 0) = -2 could(" + MOST + ", 1) = -2")
            .upon(FIVE + "ask(4, 1) ").same("could(0, 0) = 0").refused("could(1, 0) = -2")
            .upon(YardEdges.crowd(7, 1))
            .same("could(5, 0) = 0").refused("could(6, 0) = -2"));
        e.test(40, own, "nobody and one have no JOINT; though it is OVER, two have one", t -> t
            .refused("could(0, 0) = -2 could(0, 1) = -2")
            .upon(ALONE).refused("could(0, 0) = -2")
            .upon(NOBODY_ELSE)
            .same("could(0, 0) = 0 could(0, 1) = 0")
            .upon(RUNG).same("could(0, 0) = 0"));
        e.test(40, own, "sure 0 and 1 are taken, -1 and 2 are BAD", t -> t.upon(FIVE).same("could(0, 0) = 8 could(0, 1) = 8")
            .refused("could(0, -1) = -2 could(0, 2) = -2 could(0, " + LEAST + ") = -2 could(0, " + MOST + ") = -2"));
    }
}
