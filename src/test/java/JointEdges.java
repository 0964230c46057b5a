/** Boundaries of promises 17 to 21, 23, 25 and 26: HOLD, STRENGTH, FORCE against it, ODDS, and when it is OVER. */
final class JointEdges {
    private static final int LEAST = Integer.MIN_VALUE;
    private static final int MOST = Integer.MAX_VALUE;
    private static final String FIVE = YardEdges.FIVE;
    private static final String SIX = YardEdges.SIX;
    /** BELL has rung: CHAIN 0 is 0 5 1 2, CHAIN 1, whose TURN it is, 3 4. */
    static final String RUNG = SIX + "ask(3, 1) run(5, 0, 0) ";
    /** CHAIN 0, whose TURN it is, has 0 alone; CHAIN 1 has 1 and 2. */
    static final String ALONE = YardEdges.crowd(1, 2);
    /** CHAIN 0, whose TURN it is, has 0 and 1; CHAIN 1 has 2 alone. */
    static final String NOBODY_ELSE = YardEdges.crowd(2, 1);

    static void all(Edges e) {
        hold(e);
        strength(e);
        weakestAndStrongest(e);
        hardest(e);
        odds(e);
        take(e);
        over(e);
        won(e);
    }

    /** Four in CHAIN 0, all with no GRIP but the second, so that JOINT 1 is as strong as the second holds. */
    private static String second(int kind, int grip, int weight, int a, int tired) {
        return "one(0, 0, 0, 0, 0) one(0, " + kind + ", " + grip + ", " + weight + ", " + a + ") one(0, 0, 0, 0, 0) "
            + "one(0, 0, 0, 0, 0) tell(1, 2, "
            + tired + ") ";
    }

    private static void holds(Edge t, int hold, String yard) {
        t.upon(yard).same("strength(0, 1) = " + hold);
    }

    private static void hold(Edges e) {
        String sentence = "HOLD of one, beside another: GRIP less TIRED (0 at least); FIRM (SISTER): a more; WEAK (SLY): half "
            + "of that (cut); "
            + "SISTER: 5 more beside a SISTER; HEAVY: a quarter of WEIGHT more (cut).";
        e.test(17, sentence, "GRIP less TIRED: TIRED 1 less than GRIP, as much, 1 more, and the most", t -> {
            holds(t, 1, second(0, 5, 9, 9, 4));
            holds(t, 0, second(0, 5, 9, 9, 5));
            holds(t, 0, second(0, 5, 9, 9, 6));
            holds(t, 0, second(0, 5, 9, 9, 20));
            holds(t, 20, second(0, 20, 9, 9, 0));
            holds(t, 1, second(0, 20, 9, 9, 19));
            holds(t, 0, second(0, 20, 9, 9, 20));
            holds(t, 0, second(0, 0, 9, 9, 0));
            holds(t, 0, second(0, 0, 9, 9, 1));
        });
        e.test(17, sentence, "FIRM and SISTER: a 0 and 9 more, also if more TIRED than GRIP", t -> {
            for (int kind = 1; kind <= 3; kind += 2) {
                holds(t, 5, second(kind, 5, 9, 0, 0));
                holds(t, 14, second(kind, 5, 9, 9, 0));
                holds(t, 9, second(kind, 5, 9, 9, 5));
                holds(t, 9, second(kind, 5, 9, 9, 6));
                holds(t, 0, second(kind, 0, 9, 0, 20));
                holds(t, 29, second(kind, 20, 9, 9, 0));
            }
        });
        e.test(17, sentence, "WEAK and SLY: half of 0, 1, 2, 3, 19 and 20, cut, behind TIRED is taken off", t -> {
            for (int kind = 2; kind <= 5; kind += 3) {
                holds(t, 0, second(kind, 0, 9, 9, 0));
                holds(t, 0, second(kind, 1, 9, 9, 0));
                holds(t, 1, second(kind, 2, 9, 9, 0));
                holds(t, 1, second(kind, 3, 9, 9, 0));
                holds(t, 9, second(kind, 19, 9, 9, 0));
                holds(t, 10, second(kind, 20, 9, 9, 0));
                holds(t, 1, second(kind, 4, 9, 9, 1));
                holds(t, 0, second(kind, 4, 9, 9, 3));
                holds(t, 0, second(kind, 3, 9, 9, 4));
            }
        });
        e.test(17, sentence, "HEAVY: a quarter of 0, 3, 4, 7, 8, 19 and 20, cut, also if more TIRED than GRIP", t -> {
            holds(t, 0, second(4, 0, 0, 9, 0));
            holds(t, 0, second(4, 0, 3, 9, 0));
            holds(t, 1, second(4, 0, 4, 9, 0));
            holds(t, 1, second(4, 0, 7, 9, 0));
            holds(t, 2, second(4, 0, 8, 9, 0));
            holds(t, 4, second(4, 0, 19, 9, 0));
            holds(t, 5, second(4, 0, 20, 9, 0));
            holds(t, 25, second(4, 20, 20, 9, 0));
            holds(t, 5, second(4, 3, 20, 9, 20));
        });
        String beside = "one(0, 0, 0, 0, 0) one(0, %d, 4, 0, 0) one(0, %d, 4, 0, 0) one(0, 0, 0, 0, 0) ";
        e.test(17, sentence, "5 more for a SISTER beside a SISTER alone", t -> {
            holds(t, 18, String.format(beside, 3, 3));
            holds(t, 8, String.format(beside, 3, 1));
            holds(t, 8, String.format(beside, 1, 3));
            holds(t, 8, String.format(beside, 3, 0));
            holds(t, 8, String.format(beside, 1, 1));
            holds(t, 10, String.format(beside, 3, 3) + "tell(1, 2, 20) tell(2, 2, 20) ".replace("20", "4"));
        });
    }

    private static String pair(int left, int right) {
        return "one(0, 0, " + left + ", 0, 0) one(0, 0, " + right + ", 0, 0) ";
    }

    private static void strength(Edges e) {
        String sentence = "STRENGTH: HOLD of both together; 3 more, if WRISTS is 1; 2 less (0 at least) of the first and the "
            + "last JOINT.";
        e.test(17, sentence, "2 less, 0 at least: of 0, 1, 2 and 3, and with WRISTS", t -> t.upon(pair(0, 0))
            .same("strength(0, 0) = 0")
            .upon(pair(1, 0)).same("strength(0, 0) = 0")
            .upon(pair(1, 1)).same("strength(0, 0) = 0")
            .upon(pair(0, 3))
            .same("strength(0, 0) = 1")
            .upon(pair(0, 0) + "ask(2, 1) ").same("strength(0, 0) = 1")
            .upon(pair(0, 1) + "ask(2, 1) ")
            .same("strength(0, 0) = 2"));
        e.test(17, sentence, "the first and the last of one, two, three and seven JOINTS", t -> t.upon(YardEdges.crowd(2, 0))
            .same("strength(0, 0) = 8")
            .upon(YardEdges.crowd(3, 0)).same("strength(0, 0) = 8 strength(0, 1) = 8")
            .upon(YardEdges.crowd(4, 0)).same("strength(0, 0) = 8 strength(0, 1) = 10 strength(0, 2) = 8")
            .upon(YardEdges.crowd(8, 0)).same("strength(0, 0) = 8 strength(0, 1) = 10 strength(0, 5) = 10 strength(0, 6) = 8"));
        String most = "one(0, 3, 20, 0, 9) ".repeat(4) + "ask(2, 1) ";
        e.test(17, sentence, "the most: 71, at the ends 69", t -> t.upon(most)
            .same("strength(0, 0) = 69 strength(0, 1) = 71 strength(0, 2) = 69"));
        String own = "STRENGTH. BAD: also no such JOINT.";
        e.test(17, own, "JOINT 0 and the last are told, -1 and the one behind are BAD", t -> t.upon(FIVE)
            .same("strength(0, 0) = 14 strength(0, 1) = 22 strength(1, 0) = 14")
            .refused("strength(0, -1) = -2 strength(0, 2) = -2 strength(1, 1) = -2 strength(1, -1) = -2 "
                + "strength(0, " + LEAST + ") = -2 strength(0, " + MOST + ") = -2"));
        e.test(17, own, "nobody and one have no JOINT, two have one, eight have seven", t -> t
            .refused("strength(0, 0) = -2 strength(1, 0) = -2 strength(0, -1) = -2")
            .upon(YardEdges.crowd(1, 0)).refused("strength(0, 0) = -2 strength(0, -1) = -2")
            .upon(YardEdges.crowd(2, 0)).same("strength(0, 0) = 8").refused("strength(0, 1) = -2 strength(1, 0) = -2")
            .upon(YardEdges.crowd(0, 8)).same("strength(1, 6) = 8")
            .refused("strength(1, 7) = -2 strength(1, 8) = -2 strength(0, 0) = -2"));
        e.test(17, own, "CHAIN 0 and 1 are told, -1 and 2 are BAD", t -> t.upon(FIVE)
            .refused("strength(-1, 0) = -2 strength(2, 0) = -2 strength(" + LEAST + ", 0) = -2 strength(" + MOST + ", 0) = -2"));
    }

    private static void weakestAndStrongest(Edges e) {
        for (int promise = 18; promise <= 19; promise++) {
            boolean isWeakest = promise == 18;
            String name = isWeakest ? "weakest" : "strongest";
            String sentence = "The JOINT of the " + (isWeakest ? "least" : "greatest") + " STRENGTH, of several the first. "
                + "BAD; STUCK: there is none.";
            e.test(promise, sentence, "nobody and one are STUCK, two have JOINT 0", t -> t
                .refused(name + "(0) = -5 " + name + "(1) = -5")
                .upon(YardEdges.crowd(1, 0)).refused(name + "(0) = -5 " + name + "(1) = -5")
                .upon(YardEdges.crowd(0, 1))
                .refused(name + "(1) = -5 " + name + "(0) = -5")
                .upon(YardEdges.crowd(2, 2)).same(name + "(0) = 0 " + name + "(1) = 0"));
            e.test(promise, sentence, "CHAIN 0 and 1 are told, -1 and 2 are BAD", t -> t.upon(SIX)
                .same(isWeakest ? "weakest(0) = 0 weakest(1) = 1" : "strongest(0) = 1 strongest(1) = 0")
                .refused(name + "(-1) = -2 " + name + "(2) = -2 " + name + "(" + LEAST + ") = -2 " + name + "(" + MOST + ") = -2"));
            // GRIP 5 of all: 8, then 10 each, then 8.
            e.test(promise, sentence, "of several the first, the first and the last of seven", t -> t.upon(YardEdges.crowd(8, 0))
                .same(name + "(0) = " + (isWeakest ? 0 : 1))
                .upon(YardEdges.crowd(3, 0)).same(name + "(0) = 0")
                .upon(YardEdges.crowd(8, 0) + "tell(7, 0, " + (isWeakest ? 4 : 8) + ") ").same(name + "(0) = 6")
                .upon(YardEdges.crowd(8, 0) + "tell(7, 0, " + (isWeakest ? 5 : 7) + ") ")
                .same(name + "(0) = " + (isWeakest ? 0 : 1))
                .upon(YardEdges.crowd(8, 0) + "tell(0, 0, " + (isWeakest ? 0 : 20) + ") ").same(name + "(0) = 0"));
            e.test(promise, sentence, "where all STRENGTHS are 0, and where they are the most", t -> t
                .upon(pair(0, 0) + pair(0, 0)).same(name + "(0) = 0")
                .upon("one(0, 3, 20, 0, 9) ".repeat(4) + "ask(2, 1) ").same(name + "(0) = " + (isWeakest ? 0 : 1)));
        }
    }

    private static void hardest(Edges e) {
        String sentence = "Who of a CHAIN has the greatest FORCE, of several the first by PLACES. BAD; STUCK: nobody is in it.";
        e.test(20, sentence, "nobody is STUCK, one is told", t -> t.refused("hardest(0) = -5 hardest(1) = -5")
            .upon(YardEdges.crowd(0, 1)).same("hardest(1) = 0").refused("hardest(0) = -5")
            .upon("one(0, 0, 0, 0, 0) ask(0, 0) ")
            .same("hardest(0) = 0"));
        e.test(20, sentence, "the second of two", t -> t.upon(YardEdges.crowd(2, 0) + "tell(1, 1, 6) ").same("hardest(0) = 1")
            .upon(YardEdges.crowd(2, 0) + "tell(0, 1, 6) ").same("hardest(0) = 0"));
        e.test(20, sentence, "of several the first by PLACES; the first and the last of eight", t -> t.upon(YardEdges.crowd(8, 0))
            .same("hardest(0) = 0")
            .upon(YardEdges.crowd(8, 0) + "move(7, 0) ").same("hardest(0) = 7")
            .upon(YardEdges.crowd(8, 0) + "tell(7, 1, 6) ")
            .same("hardest(0) = 7")
            .upon(YardEdges.crowd(8, 0) + "tell(7, 1, 6) tell(3, 1, 6) ").same("hardest(0) = 3")
            .upon(YardEdges.crowd(8, 0) + "tell(7, 1, 6) tell(3, 1, 6) move(7, 0) ").same("hardest(0) = 7"));
        e.test(20, sentence, "CHAIN 0 and 1 are told, -1 and 2 are BAD", t -> t.upon(FIVE).same("hardest(0) = 0 hardest(1) = 3")
            .refused("hardest(-1) = -2 hardest(2) = -2 hardest(" + LEAST + ") = -2 hardest(" + MOST + ") = -2"));
    }

    private static void odds(Edges e) {
        String sentence = "ODDS of a run at a JOINT: of the SPREAD numbers 0 to SPREAD less 1 those by which FORCE and the "
            + "number are above STRENGTH: "
            + "1,000,000 times how many, by SPREAD (cut).";
        e.test(21, sentence, "SPREAD 1: FORCE as STRENGTH is 0, one more 1,000,000", t -> t.upon(TapeEdges.wall(10, 1))
            .same("odds(2, 0) = 0 odds(3, 0) = 0")
            .upon(TapeEdges.wall(11, 1)).same("odds(2, 0) = 1000000")
            .upon(TapeEdges.wall(20, 1)).same("odds(2, 0) = 1000000"));
        e.test(21, sentence, "SPREAD 10: from none of the numbers to all of them", t -> {
            for (int weight = 0; weight <= 20; weight++) {
                int many = Math.max(0, Math.min(10, weight - 1));
                t.upon(TapeEdges.wall(weight, 10)).same("odds(2, 0) = " + 100000 * many);
            }
        });
        e.test(21, sentence, "what doesn't come out even is cut", t -> t.upon(TapeEdges.wall(9, 3)).same("odds(2, 0) = 333333")
            .upon(TapeEdges.wall(10, 3)).same("odds(2, 0) = 666666")
            .upon(TapeEdges.wall(10, 6)).same("odds(2, 0) = 833333")
            .upon(TapeEdges.wall(5, 7)).same("odds(2, 0) = 142857")
            .upon(TapeEdges.wall(10, 7)).same("odds(2, 0) = 857142")
            .upon(TapeEdges.wall(10, 9)).same("odds(2, 0) = 888888")
            .upon(TapeEdges.wall(10, 2)).same("odds(2, 0) = 500000"));
        e.test(21, sentence, "STRENGTH 0 and FORCE 0: not above it", t -> t
            .upon("ask(0, 0) one(0, 0, 0, 0, 0) one(0, 0, 0, 0, 0) one(1, 0, 0, 0, 0) ").same("odds(2, 0) = 0")
            .upon("ask(0, 0) one(0, 0, 0, 0, 0) one(0, 0, 0, 0, 0) one(1, 0, 0, 0, 0) ask(1, 2) ").same("odds(2, 0) = 500000")
            .upon("ask(0, 0) one(0, 0, 0, 0, 0) one(0, 0, 0, 0, 0) one(1, 0, 0, 1, 0) ").same("odds(2, 0) = 1000000"));
        String own = "ODDS of one of the CHAIN that is called. BAD: also no such JOINT; STUCK: one of the other CHAIN.";
        e.test(21, own, "the first and the last that is called are told; -1 and no such one are BAD, one of the other CHAIN is "
            + "STUCK", t -> t
            .upon(SIX)
            .same("odds(3, 0) = 1000000 odds(5, 0) = 0")
            .refused("odds(-1, 0) = -2 odds(6, 0) = -2 odds(8, 0) = -2 odds(" + LEAST + ", 0) = -2 odds(" + MOST + ", 0) = -2")
            .refused("odds(0, 0) = -5 odds(2, 0) = -5")
            .upon(SIX + "ask(4, 1) ").same("odds(0, 0) = 0 odds(2, 1) = 1000000")
            .refused("odds(3, 0) = -5 odds(5, 0) = -5"));
        e.test(21, own, "JOINT 0 and the last are told, -1 and the one behind are BAD", t -> t.upon(SIX)
            .same("odds(3, 0) = 1000000 odds(3, 1) = 0")
            .refused("odds(3, -1) = -2 odds(3, 2) = -2 odds(3, " + LEAST + ") = -2 odds(3, " + MOST + ") = -2")
            .upon(YardEdges.crowd(7, 1)).same("odds(7, 5) = 0").refused("odds(7, 6) = -2")
            .upon(ALONE).refused("odds(1, 0) = -2")
            .upon("").refused("odds(0, 0) = -2"));
        e.test(21, own, "which refusal comes first: BAD, then STUCK; OVER is none", t -> t.upon(SIX)
            .refused("odds(0, 2) = -2 odds(0, -1) = -2 odds(2, 1) = -5")
            .upon(NOBODY_ELSE).same("odds(2, 0) = 0")
            .upon(RUNG).same("odds(0, 0) = 0"));
    }

    private static void take(Edges e) {
        String sentence = "TAKE at a JOINT: the side of the greater HOLD (each beside the other), of both alike 0.";
        e.test(23, sentence, "both alike, the right 1 more, the left 1 more", t -> t.upon(pair(5, 5)).same("take(0) = 0")
            .upon(pair(5, 6)).same("take(0) = 1")
            .upon(pair(6, 5)).same("take(0) = 0")
            .upon(pair(0, 0)).same("take(0) = 0")
            .upon(pair(20, 20) + "tell(0, 2, 1) ")
            .same("take(0) = 1")
            .upon(pair(3, 5) + "tell(0, 2, 20) tell(1, 2, 20) ").same("take(0) = 0"));
        e.test(23, sentence, "beside each other SISTERS stay alike; halves and quarters are cut first", t -> t
            .upon("one(0, 3, 5, 0, 0) one(0, 3, 5, 0, 0) ").same("take(0) = 0")
            .upon("one(0, 3, 5, 0, 0) one(0, 0, 6, 0, 0) ")
            .same("take(0) = 1")
            .upon("one(0, 2, 6, 0, 0) one(0, 5, 7, 0, 0) ").same("take(0) = 0")
            .upon("one(0, 4, 5, 4, 0) one(0, 4, 5, 7, 0) ")
            .same("take(0) = 0")
            .upon("one(0, 4, 5, 7, 0) one(0, 4, 5, 8, 0) ").same("take(0) = 1"));
        String own = "TAKE. BAD: no such JOINT of the CHAIN that calls.";
        e.test(23, own, "JOINT 0 and the last are told, -1 and the one behind are BAD", t -> t.upon(FIVE)
            .same("take(0) = 0 take(1) = 0")
            .refused("take(-1) = -2 take(2) = -2 take(" + LEAST + ") = -2 take(" + MOST + ") = -2")
            .upon(FIVE + "ask(4, 1) ")
            .same("take(0) = 0").refused("take(1) = -2 take(-1) = -2")
            .upon(YardEdges.crowd(8, 0)).same("take(6) = 0").refused("take(7) = -2"));
        e.test(23, own, "nobody and one have no JOINT; though it is OVER, two have one", t -> t.refused("take(0) = -2")
            .upon(ALONE).refused("take(0) = -2")
            .upon(NOBODY_ELSE).same("take(0) = 0")
            .upon(RUNG).same("take(0) = 0").refused("take(1) = -2"));
    }

    private static void over(Edges e) {
        String sentence = "OVER: a CHAIN has fewer than 2, or RUNS are BELL.";
        e.test(26, sentence, "0, 1 and 2 in either CHAIN", t -> t.same("over() = 1")
            .upon(YardEdges.crowd(1, 2))
            .same("over() = 1")
            .upon(YardEdges.crowd(2, 1)).same("over() = 1")
            .upon(YardEdges.crowd(0, 2)).same("over() = 1")
            .upon(YardEdges.crowd(2, 0)).same("over() = 1")
            .upon(YardEdges.crowd(1, 1)).same("over() = 1")
            .upon(YardEdges.crowd(2, 2)).same("over() = 0")
            .upon(YardEdges.crowd(7, 1)).same("over() = 1")
            .upon(YardEdges.crowd(6, 2)).same("over() = 0")
            .upon(YardEdges.crowd(0, 8)).same("over() = 1"));
        e.test(26, sentence, "RUNS one below BELL, BELL, and above a BELL that was lowered", t -> t.upon(SIX + "ask(3, 1) ")
            .same("over() = 0")
            .upon(SIX + "ask(3, 2) run(5, 0, 0) ").same("over() = 0")
            .upon(SIX + "ask(3, 1) run(5, 0, 0) ").same("over() = 1")
            .upon(SIX + "ask(3, 2) run(5, 0, 0) run(1, 0, 0) ").same("over() = 1 status(1) = 2")
            .upon(SIX + "ask(3, 2) run(5, 0, 0) run(1, 0, 0) ask(3, 1) ").same("over() = 1")
            .upon(SIX + "ask(3, 2) run(5, 0, 0) run(1, 0, 0) ask(3, 3) ").same("over() = 0"));
        String strong = "ask(0, 0) " + "one(0, 0, 20, 0, 0) ".repeat(3) + "one(1, 0, 20, 0, 0) ".repeat(3) + "ask(3, 99) "
            + "runs(40) runs(40) runs(18) ";
        e.test(26, "BELL (1 to 99; 20 at first)", "the 99th RUN is the last of all", t -> t.upon(strong)
            .due("status(1) = 98 over() = 0 runs(1) = 0 status(1) = 99 over() = 1 runs(40) = 0 status(1) = 99"));
        e.test(26, "1 if it is OVER, else 0.", "both answers", t -> t.upon(FIVE).same("over() = 0")
            .upon("").same("over() = 1"));
    }

    private static void won(Edges e) {
        String sentence = "WON: then the CHAIN that has more; NONE: neither (or it isn't OVER).";
        e.test(25, sentence, "nobody, alike, one more and not OVER", t -> t.same("won() = -1")
            .upon(YardEdges.crowd(1, 1))
            .same("won() = -1")
            .upon(YardEdges.crowd(1, 0)).same("won() = 0")
            .upon(YardEdges.crowd(0, 1)).same("won() = 1")
            .upon(YardEdges.crowd(2, 1)).same("won() = 0")
            .upon(YardEdges.crowd(1, 2)).same("won() = 1")
            .upon(YardEdges.crowd(2, 2)).same("won() = -1")
            .upon(YardEdges.crowd(6, 2)).same("won() = -1")
            .upon(YardEdges.crowd(8, 0)).same("won() = 0")
            .upon(YardEdges.crowd(0, 8)).same("won() = 1"));
        e.test(25, sentence, "by BELL: one more wins, alike is NONE", t -> t.upon(RUNG).same("won() = 0")
            .upon(YardEdges.crowd(2, 4) + "ask(0, 0) ask(3, 1) run(2, 0, 0) ")
            .same("chainOf(0, NONE) = 3 chainOf(1, NONE) = 3 over() = 1 won() = -1")
            .upon(YardEdges.crowd(2, 5) + "ask(0, 0) ask(3, 1) run(2, 0, 0) ")
            .same("chainOf(0, NONE) = 3 chainOf(1, NONE) = 4 won() = 1"));
        e.test(25, "WON.", "NONE isn't refused", t -> t.upon(FIVE).same("won() = -1"));
    }
}
