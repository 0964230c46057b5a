/** Boundaries of promises 9 to 13, 15 and 16: PEOPLE, what is agreed on, THE TAPE's bytes, who is where. */
final class YardEdges {
    private static final int LEAST = Integer.MIN_VALUE;
    private static final int MOST = Integer.MAX_VALUE;
    /** CHAIN 0: 0, 1, 2; CHAIN 1: 3, 4; FORCE 12, 10, 9, 20, 13; STRENGTH 14, 22 in CHAIN 0 and 14 in CHAIN 1. */
    static final String FIVE = "one(0, 0, 8, 9, 0) one(0, 3, 6, 7, 2) one(0, 3, 5, 6, 1) one(1, 4, 9, 14, 3) one(1, 5, 8, 8, 0) ";
    /** FIVE and, last in CHAIN 1, 5: FORCE 3; STRENGTH 14, 2 in CHAIN 1. */
    static final String SIX = FIVE + "one(1, 0, 0, 0, 0) ";

    static void all(Edges e) {
        one(e);
        tell(e);
        ask(e);
        feedAndWipe(e);
        oneOf(e);
        force(e);
        chainOf(e);
    }

    /** So many of CHAIN 0 and of CHAIN 1, all alike. */
    static String crowd(int zero, int other) {
        return "one(0, 0, 5, 5, 0) ".repeat(zero) + "one(1, 0, 5, 5, 0) ".repeat(other);
    }

    private static void one(Edges e) {
        e.test(9, "PEOPLE have numbers, 0 on, 8 at most", "the first has 0, the eighth 7, the ninth is FULL, in either CHAIN", t -> t
            .due("one(1, 0, 5, 5, 0) = 0 status(0) = 1")
            .upon(crowd(3, 3))
            .due("one(0, 0, 5, 5, 0) = 6 one(0, 0, 5, 5, 0) = 7 status(0) = 8")
            .upon(crowd(4, 4)).refused("one(0, 0, 5, 5, 0) = -6 one(1, 0, 5, 5, 0) = -6")
            .upon(crowd(0, 7)).due("one(1, 0, 5, 5, 0) = 7 chainOf(1, NONE) = 8 line(1) = 101234567")
            .upon(crowd(8, 0)).refused("one(0, 0, 5, 5, 0) = -6 one(1, 0, 5, 5, 0) = -6"));
        e.test(9, "each of a KIND: 0 HAND; 1 FIRM, 2 WEAK, 4 HEAVY, each under HAND; 3 SISTER, under FIRM; 5 SLY, under WEAK;",
            "KIND 0 and 5 are taken, -1 and 6 are BAD", t -> t.upon(FIVE)
            .due("one(0, 0, 5, 5, 0) = 5 oneOf(5, 0) = 0").due("one(0, 5, 5, 5, 0) = 5 oneOf(5, 0) = 5")
            .refused("one(0, -1, 5, 5, 0) = -2 one(0, 6, 5, 5, 0) = -2 one(0, " + LEAST + ", 5, 5, 0) = -2 "
                + "one(0, " + MOST + ", 5, 5, 0) = -2"));
        String levels = "a GRIP (0 to 20), a WEIGHT (0 to 20), TIRED (0 to 20; 0 at first), a (0 to 9).";
        e.test(9, levels, "GRIP 0 and 20 are taken, -1 and 21 are BAD", t -> t.upon(FIVE)
            .due("one(0, 0, 0, 5, 0) = 5 oneOf(5, 1) = 0").due("one(0, 0, 20, 5, 0) = 5 oneOf(5, 1) = 20")
            .refused("one(0, 0, -1, 5, 0) = -2 one(0, 0, 21, 5, 0) = -2 one(0, 0, " + LEAST + ", 5, 0) = -2 "
                + "one(0, 0, " + MOST + ", 5, 0) = -2"));
        e.test(9, levels, "WEIGHT 0 and 20 are taken, -1 and 21 are BAD", t -> t.upon(FIVE)
            .due("one(0, 0, 5, 0, 0) = 5 oneOf(5, 2) = 0").due("one(0, 0, 5, 20, 0) = 5 oneOf(5, 2) = 20")
            .refused("one(0, 0, 5, -1, 0) = -2 one(0, 0, 5, 21, 0) = -2 one(0, 0, 5, " + LEAST + ", 0) = -2 "
                + "one(0, 0, 5, " + MOST + ", 0) = -2"));
        e.test(9, levels, "a 0 and 9 are taken, -1 and 10 are BAD", t -> t.upon(FIVE)
            .due("one(0, 0, 5, 5, 0) = 5 oneOf(5, 4) = 0").due("one(0, 0, 5, 5, 9) = 5 oneOf(5, 4) = 9")
            .refused("one(0, 0, 5, 5, -1) = -2 one(0, 0, 5, 5, 10) = -2 one(0, 0, 5, 5, " + LEAST + ") = -2 "
                + "one(0, 0, 5, 5, " + MOST + ") = -2"));
        e.test(9, levels, "a new one is TIRED 0, also with a number that somebody else had", t -> t
            .due("one(0, 0, 5, 5, 5) = 0 oneOf(0, 3) = 0")
            .upon("one(0, 0, 5, 5, 5) image() one(0, 3, 6, 7, 8) tell(1, 2, 20) back() ")
            .due("one(1, 2, 1, 2, 3) = 1 oneOf(1, 3) = 0 oneOf(1, 0) = 2 oneOf(1, 5) = 1 oneOf(1, 6) = 0"));
        e.test(9, "Each is in one of two CHAINS (0, 1), at a PLACE (0 on; a new one at its end).",
            "CHAIN 0 and 1 are taken, -1 and 2 are BAD; the PLACE of a new one is 0 in an empty CHAIN, else behind the "
                + "last", t -> t
            .due("one(1, 0, 5, 5, 0) = 0 oneOf(0, 5) = 1 oneOf(0, 6) = 0 one(0, 0, 5, 5, 0) = 1 oneOf(1, 5) = 0 oneOf(1, 6) = 0")
            .upon(FIVE).due("one(0, 0, 5, 5, 0) = 5 oneOf(5, 6) = 3 line(0) = 10125 line(1) = 134")
            .due("one(1, 0, 5, 5, 0) = 5 oneOf(5, 6) = 2 line(1) = 1345")
            .due("move(0, 2) = 0 one(0, 0, 5, 5, 0) = 5 line(0) = 11205")
            .refused("one(-1, 0, 5, 5, 0) = -2 one(2, 0, 5, 5, 0) = -2 one(" + LEAST + ", 0, 5, 5, 0) = -2 "
                + "one(" + MOST + ", 0, 5, 5, 0) = -2"));
        e.test(9, "Somebody in a CHAIN: the number. BAD; FULL.", "which refusal comes first: BAD, then FULL", t -> t
            .upon(crowd(4, 4))
            .refused("one(2, 0, 5, 5, 0) = -2 one(0, 6, 5, 5, 0) = -2 one(0, 0, 21, 5, 0) = -2 one(0, 0, 5, 21, 0) = -2 "
                + "one(0, 0, 5, 5, 10) = -2")
            .refused("one(0, 0, 0, 0, 0) = -6 one(1, 5, 20, 20, 9) = -6"));
    }

    private static void tell(Edges e) {
        String sentence = "GRIP (what 0), WEIGHT (1), TIRED (2) of one becomes v: what it was. BAD.";
        e.test(10, sentence, "one 0 and the last are taken, -1 and the number behind are BAD", t -> t.upon(FIVE)
            .due("tell(0, 0, 1) = 8 oneOf(0, 1) = 1 oneOf(1, 1) = 6").due("tell(4, 0, 1) = 8 oneOf(4, 1) = 1 oneOf(3, 1) = 9")
            .refused("tell(-1, 0, 1) = -2 tell(5, 0, 1) = -2 tell(7, 0, 1) = -2 tell(8, 0, 1) = -2")
            .refused("tell(" + LEAST + ", 0, 1) = -2 tell(" + MOST + ", 0, 1) = -2"));
        e.test(10, sentence, "with nobody each is BAD, with eight the eighth is taken", t -> t
            .refused("tell(0, 0, 1) = -2 tell(-1, 2, 0) = -2")
            .upon(crowd(4, 4)).due("tell(7, 2, 3) = 0 oneOf(7, 3) = 3").refused("tell(8, 2, 3) = -2"));
        e.test(10, sentence, "what 0 and 2 are taken, -1 and 3 are BAD", t -> t.upon(FIVE)
            .due("tell(3, 0, 1) = 9 oneOf(3, 1) = 1 oneOf(3, 2) = 14 oneOf(3, 3) = 0")
            .due("tell(3, 1, 1) = 14 oneOf(3, 1) = 9 oneOf(3, 2) = 1 oneOf(3, 3) = 0")
            .due("tell(3, 2, 1) = 0 oneOf(3, 1) = 9 oneOf(3, 2) = 14 oneOf(3, 3) = 1")
            .refused("tell(3, -1, 1) = -2 tell(3, 3, 1) = -2 tell(3, " + LEAST + ", 1) = -2 tell(3, " + MOST + ", 1) = -2"));
        String[] names = {"GRIP", "WEIGHT", "TIRED"};
        for (int what = 0; what < 3; what++) {
            String tell = "tell(3, " + what + ", ";
            String is = " oneOf(3, " + (what + 1) + ") = ";
            int was = new int[] {9, 14, 0}[what];
            e.test(10, "a GRIP (0 to 20), a WEIGHT (0 to 20), TIRED (0 to 20; 0 at first), a (0 to 9).",
                names[what] + " 0 and 20 are taken, -1 and 21 are BAD", t -> t.upon(FIVE)
                .due(tell + "0) = " + was + is + "0 " + tell + "20) = 0" + is + "20 " + tell + "20) = 20")
                .refused(tell + "-1) = -2 " + tell + "21) = -2 " + tell + LEAST + ") = -2 " + tell + MOST + ") = -2"));
        }
    }

    private static void ask(Edges e) {
        String agreed = "YARDS (0 to 30; 9 at first), SPREAD (1 to 10; 1 at first), WRISTS (0 or 1; 0 at first), BELL (1 to "
            + "99; 20 at first).";
        String[] names = {"YARDS", "SPREAD", "WRISTS", "BELL", "TURN"};
        int[] least = {0, 1, 0, 1, 0};
        int[] most = {30, 10, 1, 99, 1};
        int[] first = {9, 1, 0, 20, 0};
        int[] status = {3, 4, 5, 6, 2};
        for (int what = 0; what < 5; what++) {
            String ask = "ask(" + what + ", ";
            String is = " status(" + status[what] + ") = ";
            int low = least[what];
            int high = most[what];
            int was = first[what];
            e.test(11, what == 4 ? "TURN: the CHAIN that calls (0 at first)." : agreed,
                names[what] + " " + low + " and " + high + " are taken, " + (low - 1) + " and " + (high + 1) + " are BAD", t -> t
                    .upon(FIVE)
                .due(ask + low + ") = " + was + is + low + " " + ask + high + ") = " + low + is + high + " " + ask + high + ") = " + high)
                .refused(ask + (low - 1) + ") = -2 " + ask + (high + 1) + ") = -2 " + ask + LEAST + ") = -2 " + ask + MOST + ") = -2"));
        }
        e.test(11, "YARDS (what 0), SPREAD (1), WRISTS (2), BELL (3), TURN (4; 0, 1) becomes v: what it was. BAD.",
            "what 0 and 4 are taken, -1 and 5 are BAD", t -> t.upon(FIVE)
            .due("ask(0, 1) = 9 status(3) = 1 status(4) = 1 status(5) = 0 status(6) = 20 status(2) = 0")
            .due("ask(4, 1) = 0 status(3) = 9 status(4) = 1 status(5) = 0 status(6) = 20 status(2) = 1")
            .refused("ask(-1, 1) = -2 ask(5, 1) = -2 ask(" + LEAST + ", 1) = -2 ask(" + MOST + ", 1) = -2"));
        e.test(11, "YARDS (what 0), SPREAD (1), WRISTS (2), BELL (3), TURN (4; 0, 1) becomes v: what it was. BAD.",
            "with nobody, and though it is OVER", t -> t.due("ask(4, 1) = 0 status(2) = 1 ask(3, 1) = 20 ask(0, 30) = 9"));
    }

    private static void feedAndWipe(Edges e) {
        String feed = "THE TAPE gets one byte (0 to 255) behind it: its size. BAD; FULL.";
        e.test(12, feed, "0 and 255 are taken, -1 and 256 are BAD", t -> t.due("feed(0) = 1 feed(255) = 2 status(8) = 2")
            .refused("feed(-1) = -2 feed(256) = -2 feed(" + LEAST + ") = -2 feed(" + MOST + ") = -2")
            .upon("feed(59) ").due("feed(0) = 2").due("feed(255) = 2").refused("feed(-1) = -2 feed(256) = -2"));
        String almost = "feed 'yards 3" + " ".repeat(242) + "' ";
        String full = almost + "feed(32) ";
        e.test(12, "THE TAPE (bytes, 250 at most)", "the 250th byte is taken, the 251st is FULL", t -> t
            .upon(almost).due("status(8) = 249 feed(32) = 250 status(8) = 250 yard() = 1 status(3) = 3")
            .upon(full).refused("feed(32) = -6 feed(0) = -6 feed(255) = -6").due("wipe() = 250 feed(32) = 1")
            .due("yard() = 1 feed(32) = 1"));
        e.test(12, feed, "which refusal comes first: BAD, then FULL", t -> t.upon(full)
            .refused("feed(-1) = -2 feed(256) = -2 feed(97) = -6"));
        e.test(13, "THE TAPE is empty: its size ahead.", "an empty TAPE, one byte, a full one, and twice", t -> t
            .same("wipe() = 0")
            .upon("feed(97) ").due("wipe() = 1 status(8) = 0 wipe() = 0 feed(97) = 1")
            .upon(full).due("wipe() = 250 status(8) = 0 wipe() = 0 feed(97) = 1 status(8) = 1"));
        e.test(13, "THE TAPE is empty: its size ahead.", "nothing of what was wiped is read", t -> t
            .upon(FIVE + "feed 'yards 3;bell 7' wipe() feed 'yards 4' ")
            .due("yard() = 1 status(3) = 4 status(6) = 20")
            .upon(FIVE + "feed 'yards 3' wipe() ").refused("yard() = -20"));
    }

    private static void oneOf(Edges e) {
        String sentence = "Of one: KIND (0), GRIP (1), WEIGHT (2), TIRED (3), a (4), CHAIN (5), PLACE (6), FORCE (7). BAD.";
        e.test(15, sentence, "one 0 and the last are told, -1 and the number behind are BAD", t -> t.upon(FIVE)
            .same("oneOf(0, 0) = 0 oneOf(4, 0) = 5 oneOf(0, 6) = 0 oneOf(2, 6) = 2 oneOf(4, 6) = 1")
            .refused("oneOf(-1, 0) = -2 oneOf(5, 0) = -2 oneOf(7, 0) = -2 oneOf(8, 0) = -2 oneOf(" + LEAST + ", 0) = -2 "
                + "oneOf(" + MOST + ", 0) = -2"));
        e.test(15, sentence, "with nobody each is BAD, with eight the eighth is told, at PLACE 7 too", t -> t
            .refused("oneOf(0, 0) = -2 oneOf(-1, 5) = -2")
            .upon(crowd(8, 0)).same("oneOf(7, 6) = 7 oneOf(0, 6) = 0 oneOf(7, 7) = 8").refused("oneOf(8, 6) = -2"));
        e.test(15, sentence, "what 0 and 7 are told, -1 and 8 are BAD", t -> t.upon(FIVE + "tell(3, 2, 2) ")
            .same("oneOf(3, 0) = 4 oneOf(3, 1) = 9 oneOf(3, 2) = 14 oneOf(3, 3) = 2 oneOf(3, 4) = 3 oneOf(3, 5) = 1 "
                + "oneOf(3, 6) = 0 oneOf(3, 7) = 20")
            .refused("oneOf(3, -1) = -2 oneOf(3, 8) = -2 oneOf(3, " + LEAST + ") = -2 oneOf(3, " + MOST + ") = -2"));
    }

    private static void force(Edges e) {
        String sentence = "FORCE of one who runs: WEIGHT and a third of YARDS (cut); HEAVY: a more; SLY: 2 more.";
        e.test(15, sentence, "a third of 0, 2, 3, 5, 6, 29 and 30 YARDS, cut", t -> t.upon("one(0, 0, 5, 7, 9) ")
            .due("ask(0, 0) oneOf(0, 7) = 7 ask(0, 2) oneOf(0, 7) = 7 ask(0, 3) oneOf(0, 7) = 8 ask(0, 5) oneOf(0, 7) = 8 "
                + "ask(0, 6) oneOf(0, 7) = 9")
            .due("ask(0, 29) oneOf(0, 7) = 16 ask(0, 30) oneOf(0, 7) = 17"));
        e.test(15, sentence, "the least 0 and the most 39; a counts of a HEAVY one alone, 2 more of a SLY one alone", t -> t
            .upon("ask(0, 0) one(0, 0, 20, 0, 9) one(0, 4, 20, 0, 0) one(0, 5, 20, 0, 9) ")
            .same("oneOf(0, 7) = 0 oneOf(1, 7) = 0 oneOf(2, 7) = 2")
            .upon("ask(0, 30) one(0, 0, 0, 20, 9) one(0, 1, 0, 20, 9) one(0, 2, 0, 20, 9) one(0, 3, 0, 20, 9) "
                + "one(0, 4, 0, 20, 9) one(0, 5, 0, 20, 9) ")
            .same("oneOf(0, 7) = 30 oneOf(1, 7) = 30 oneOf(2, 7) = 30 oneOf(3, 7) = 30 oneOf(4, 7) = 39 oneOf(5, 7) = 32"));
        e.test(15, sentence, "TIRED hands don't lessen it", t -> t.upon("one(0, 0, 0, 7, 0) tell(0, 2, 20) ")
            .same("oneOf(0, 7) = 10"));
    }

    private static void chainOf(Edges e) {
        String sentence = "Who is at a PLACE of a CHAIN; how many there are (place NONE). BAD.";
        e.test(16, sentence, "place NONE, 0 and the last are told, -2 and the one behind are BAD", t -> t.upon(FIVE)
            .same("chainOf(0, NONE) = 3 chainOf(0, 0) = 0 chainOf(0, 2) = 2 chainOf(1, NONE) = 2 chainOf(1, 0) = 3 "
                + "chainOf(1, 1) = 4")
            .refused("chainOf(0, -2) = -2 chainOf(0, 3) = -2 chainOf(1, 2) = -2 chainOf(0, " + LEAST + ") = -2 "
                + "chainOf(0, " + MOST + ") = -2"));
        e.test(16, sentence, "an empty CHAIN and a full one", t -> t.upon(crowd(8, 0))
            .same("chainOf(0, NONE) = 8 chainOf(0, 7) = 7 chainOf(1, NONE) = 0")
            .refused("chainOf(0, 8) = -2 chainOf(1, 0) = -2 chainOf(1, 7) = -2")
            .upon("").same("chainOf(0, NONE) = 0 chainOf(1, NONE) = 0").refused("chainOf(0, 0) = -2 chainOf(1, 0) = -2"));
        e.test(16, sentence, "CHAIN 0 and 1 are told, -1 and 2 are BAD", t -> t.upon(FIVE)
            .refused("chainOf(-1, 0) = -2 chainOf(2, 0) = -2 chainOf(-1, NONE) = -2 chainOf(2, NONE) = -2 "
                + "chainOf(" + LEAST + ", 0) = -2 chainOf(" + MOST + ", 0) = -2"));
    }
}
