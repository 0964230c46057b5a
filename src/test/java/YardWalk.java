/** The document's first pages: what it is, the public face, and the terms of THE YARD. */
final class YardWalk {
    private static final String FIVE = YardEdges.FIVE;
    private static final String SIX = YardEdges.SIX;
    /** One of each KIND, shown in the SHELF of the KIND's number. */
    private static final String KINDS = "one(0, 0, 8, 9, 3) one(0, 1, 8, 9, 3) one(0, 2, 8, 9, 3) one(1, 3, 8, 9, 3) "
        + "one(1, 4, 8, 9, 3) one(1, 5, 8, 9, 3) show(0, 0) show(1, 1) show(2, 2) show(3, 3) show(4, 4) show(5, 5) ";

    static void all(Walk w) {
        whatItIs(w);
        w.passes("## The public face");
        w.face("## Terms");
        w.passes("## Terms THE YARD");
        people(w);
        agreed(w);
        tokens(w);
        statements(w);
        runsTold(w);
        faults(w);
    }

    private static void whatItIs(Walk w) {
        w.passes("# ThroughTheChain ## What it is");
        w.says("Through the chain: two rows hand in hand, people by kinds, each with a grip, a weight, tired hands; how "
            + "strong each joint is, who runs with which force, by what odds a joint tears, the weakest joint, how to "
            + "stand, whom to call, at which joint to run, whom to take home, what comes of a run,", t -> t.upon(SIX)
            .same("line(0) = 1012 line(1) = 1345 oneOf(4, 0) = 5 oneOf(0, 1) = 8 oneOf(0, 2) = 9 oneOf(0, 3) = 0")
            .same("strength(0, 0) = 14 strength(0, 1) = 22 oneOf(3, 7) = 20 odds(3, 0) = 1000000 odds(4, 0) = 0 weakest(0) = 0")
            .same("stand(0, NONE) = 14 stand(0, 1) = 1 call() = 4 at(3) = 0 take(0) = 0")
            .upon(SIX + "fill 0 2: 3001 ").same("behind(0, 1, 0) = 2 behind(0, 1, 1) = 4"));
        w.says("plays by rules to the end, whoever is light called again and again, the next runs looked ahead as a "
            + "game, how often sisters stand together, told books judged, who could have torn it, swaps, rests, yards "
            + "read from texts, runs in truth by draws.", t -> t.upon(ChoiceEdges.STRONG).same("play(0, 1) = 20 play(1, 1) = 20")
            .upon(SIX).same("game(0) = 0 together(0) = 4 could(0, 0) = 8 swap(0, 1) = -2")
            .upon(SIX + "fill 0 2: 3000 ").same("judge(0, 1) = 0")
            .upon(SIX).due("tell(0, 2, 3) = 0 rest(2) = 5 oneOf(0, 3) = 1 read 'yards 12;run 5 0' = 2 status(3) = 12")
            .due("run(3, 0, 1) = 1 status(9) = 1103527590"));
        w.passes("==== 1.");
        w.says("An object is used for at most 512 calls after it has been made; what later calls answer is free.", t -> t.bare()
            .due("ask(0, 9) = 9 ".repeat(250) + "feed(97) = 1 wipe() = 1 ".repeat(125) + "status(3) = 9 status(8) = 0"));
    }

    private static void people(Walk w) {
        w.says("PEOPLE have numbers, 0 on, 8 at most,", t -> t
            .due("one(0, 0, 5, 5, 0) = 0 one(1, 0, 5, 5, 0) = 1 one(1, 0, 5, 5, 0) = 2 one(0, 0, 5, 5, 0) = 3")
            .upon(YardEdges.crowd(4, 3)).due("one(0, 0, 5, 5, 0) = 7 status(0) = 8")
            .upon(YardEdges.crowd(4, 4)).refused("one(0, 0, 5, 5, 0) = -6"));
        w.says("each of a KIND: 0 HAND; 1 FIRM, 2 WEAK, 4 HEAVY, each under HAND; 3 SISTER, under FIRM; 5 SLY, under "
            + "WEAK;", t -> {
            // By whom each KIND is taken for: FORCE 12 and 3 more or 2 more, HOLD 8 and 3 more, or half of 8.
            String[] answers = {"0 - - - - -", "0 11 - - - -", "0 - 4 - - -", "1 11 - 0 - -", "1 - - - 15 -", "1 - 4 - - 14"};
            t.upon(KINDS);
            for (int one = 0; one < 6; one++) {
                String[] said = answers[one].split(" ");
                for (int kind = 0; kind < 6; kind++) {
                    String says = "says(" + one + ", " + kind + ") = ";
                    if (said[kind].equals("-")) {
                        t.refused(says + "-3");
                    } else {
                        t.same(says + said[kind]);
                    }
                }
            }
        });
        w.says("a GRIP (0 to 20), a WEIGHT (0 to 20), TIRED (0 to 20; 0 at first), a (0 to 9).", t -> t
            .due("one(0, 4, 20, 0, 9) = 0 oneOf(0, 1) = 20 oneOf(0, 2) = 0 oneOf(0, 3) = 0 oneOf(0, 4) = 9")
            .due("one(0, 4, 0, 20, 0) = 0 oneOf(0, 1) = 0 oneOf(0, 2) = 20 tell(0, 2, 20) = 0 oneOf(0, 3) = 20 oneOf(0, 4) = 0")
            .refused("one(0, 4, 21, 0, 0) = -2 one(0, 4, 0, 21, 0) = -2 one(0, 4, 0, 0, 10) = -2")
            .refused("one(0, 4, -1, 0, 0) = -2 one(0, 4, 0, -1, 0) = -2 one(0, 4, 0, 0, -1) = -2")
            .upon(FIVE).refused("tell(0, 2, 21) = -2 tell(0, 2, -1) = -2"));
        w.says("Each is in one of two CHAINS (0, 1), at a PLACE (0 on; a new one at its end).", t -> t.upon(FIVE)
            .same("oneOf(0, 5) = 0 oneOf(2, 5) = 0 oneOf(3, 5) = 1 oneOf(0, 6) = 0 oneOf(2, 6) = 2 oneOf(3, 6) = 0 "
            + "oneOf(4, 6) = 1")
            .due("one(0, 0, 5, 5, 0) = 5 line(0) = 10125 one(1, 0, 5, 5, 0) = 6 line(1) = 1346")
            .refused("one(2, 0, 5, 5, 0) = -2 one(-1, 0, 5, 5, 0) = -2"));
        w.passes("text");
    }

    private static void agreed(Walk w) {
        w.says("YARDS (0 to 30; 9 at first), SPREAD (1 to 10; 1 at first), WRISTS (0 or 1; 0 at first), BELL (1 to 99; "
            + "20 at first).", t -> t.bare().same("status(3) = 9 status(4) = 1 status(5) = 0 status(6) = 20")
            .due("ask(0, 0) = 9 ask(0, 30) = 0 ask(1, 10) = 1 ask(1, 1) = 10 ask(2, 1) = 0 ask(2, 0) = 1 ask(3, 1) = 20 "
                + "ask(3, 99) = 1")
            .refused("ask(0, -1) = -2 ask(0, 31) = -2 ask(1, 0) = -2 ask(1, 11) = -2")
            .refused("ask(2, -1) = -2 ask(2, 2) = -2 ask(3, 0) = -2 ask(3, 100) = -2"));
        w.says("TURN: the CHAIN that calls (0 at first).", t -> t.bare().same("status(2) = 0")
            .upon(SIX).same("odds(3, 0) = 1000000 call() = 4").refused("odds(0, 0) = -5")
            .upon(SIX + "ask(4, 1) ").same("odds(0, 0) = 0 odds(0, 1) = 1000000 call() = 0").refused("odds(3, 0) = -5"));
        w.says("RUNS: how many there were (0 at first).", t -> t.bare().same("status(1) = 0")
            .upon(SIX).due("run(5, 0, 0) = 0 status(1) = 1 run(1, 0, 0) = 0 status(1) = 2"));
    }

    private static void tokens(Walk w) {
        w.says("A YARD is read from THE TAPE (bytes, 250 at most).", t -> t.upon(SIX)
            .due("feed 'yards 3' = 7 yard() = 1 status(3) = 3")
            .due("read '" + " ".repeat(243) + "yards 3' = 1 status(3) = 3")
            .upon("feed '" + " ".repeat(250) + "' ").refused("feed(32) = -6"));
        w.says("TOKENS, each as long as can be: WORDS (a .. z), NUMBERS (digits), the SIGN ; - blanks (32) may stand "
            + "anywhere between.", t -> t.upon(SIX)
            .due("read 'yards12;bell7' = 2 status(3) = 12 status(6) = 7")
            .due("read '  yards  12 ;  bell 7 ' = 2 status(3) = 12 status(6) = 7")
            .fault("yards 1 2", 8).fault("yar ds 12", 0).fault("yardsbell 7", 0).fault("yards\t12", 5));
        w.says("STATEMENTS, one or more, with ; between:", t -> t.upon(SIX)
            .due("read 'yards 3' = 1 status(3) = 3")
            .due("read 'yards 3;bell 7;wrists 1' = 3 status(3) = 3 status(6) = 7 status(5) = 1")
            .fault("", 0).fault(";yards 3", 0).fault("yards 3;", 8).fault("yards 3;;bell 7", 8).fault("yards 3 bell 7", 8));
    }

    private static void statements(Walk w) {
        w.says("one C K G W A (CHAIN, KIND, GRIP, WEIGHT, a);", t -> t.upon(FIVE)
            .due("read 'one 1 4 19 14 3' = 1 line(1) = 1345 oneOf(5, 5) = 1 oneOf(5, 0) = 4 oneOf(5, 1) = 19 oneOf(5, 2) = 14 "
                + "oneOf(5, 4) = 3 oneOf(5, 3) = 0")
            .fault("one 2 4 19 14 3", 4).fault("one 1 6 19 14 3", 6).fault("one 1 4 21 14 3", 8).fault("one 1 4 19 21 3", 11)
            .fault("one 1 4 19 14 10", 14));
        w.says("tired P N;", t -> t.upon(FIVE).due("read 'tired 2 7' = 1 oneOf(2, 3) = 7 status(7) = 7").fault("tired 5 7", 6)
            .fault("tired 2 21", 8));
        w.says("yards N;", t -> t.upon(FIVE).due("read 'yards 29' = 1 status(3) = 29").fault("yards 31", 6));
        w.says("spread N;", t -> t.upon(FIVE).due("read 'spread 9' = 1 status(4) = 9").fault("spread 0", 7)
            .fault("spread 11", 7));
        w.says("wrists N;", t -> t.upon(FIVE).due("read 'wrists 1' = 1 status(5) = 1").fault("wrists 2", 7));
        w.says("bell N;", t -> t.upon(FIVE).due("read 'bell 98' = 1 status(6) = 98").fault("bell 0", 5));
    }

    private static void runsTold(Walk w) {
        w.says("run P J S (a RUN in truth of P at JOINT J that is TORN, and takes, by S 0 the left, 1 the right one; if "
            + "it can be TORN by its ODDS)", t -> t.upon(SIX)
            .due("read 'run 3 0 0' = 1 line(0) = 112 line(1) = 14530 status(1) = 1 status(2) = 1 status(7) = 2")
            .due("read 'run 3 0 1' = 1 line(0) = 102 line(1) = 14531 status(1) = 1 status(2) = 1 status(7) = 2")
            // FORCE 13 against 14: with SPREAD 3 the number 2 alone is above it.
            .due("read 'spread 3;run 4 0 0' = 2 line(0) = 112 line(1) = 13540")
            .fault("run 4 0 0", 8).fault("spread 2;run 4 0 0", 17));
        w.says("or run P J (that HOLDS, if it can).", t -> t.upon(SIX)
            .due("read 'run 4 0' = 1 line(0) = 10412 line(1) = 135 status(1) = 1 status(2) = 1 status(7) = 2")
            .due("read 'spread 3;run 4 0' = 2 line(0) = 10412 line(1) = 135").fault("run 3 0", 7));
        w.says("All comes to what there is, or nothing.", t -> t.upon(SIX)
            .due("read 'one 0 0 1 2 3;tired 6 4;yards 3' = 3 status(0) = 7 line(0) = 10126 oneOf(6, 3) = 4 status(3) = 3 "
            + "status(6) = 20")
            .fault("one 0 0 1 2 3;tired 6 4;yards 3;run 5 0;oops", 40));
    }

    private static void faults(Walk w) {
        w.says("The FAULT: the place of the first byte of the first TOKEN that can't stand there", t -> t.upon(SIX)
            .fault("bell 7;yards bell", 13).fault("bell 7 yards 99", 7).fault("bells 7", 0).fault("7 bell", 0));
        w.says("(also a NUMBER that may not be, or has more than 2 digits;", t -> t.upon(SIX)
            .fault("bell 7;spread 11", 14).fault("bell 007", 5).fault("run 5 0 001", 8).fault("bell 100", 5)
            .due("read 'bell 07' = 1 status(6) = 7"));
        w.says("of run: one that isn't in the CHAIN that is called, or the play is OVER: P;", t -> t.upon(SIX)
            .fault("run 0 0", 4).fault("run 6 0", 4).fault("run  2 9", 5).fault("bell 1;run 5 0;run 1 0", 19)
            .upon(YardEdges.crowd(2, 1)).fault("run 2 0", 4));
        w.says("no such JOINT: J;", t -> t.upon(SIX).fault("run 5 2", 6).fault("run 5 2 7", 6)
            .due("read 'run 5 1' = 1 line(0) = 10152"));
        w.says("one that can't be TORN: S;", t -> t.upon(SIX).fault("run 5 0 1", 8).fault("run 5 0   0", 10));
        w.says("one that must be: the TOKEN behind J;", t -> t.upon(SIX).fault("run 3 0;bell 7", 7).fault("run 3 0 ;bell 7", 8)
            .fault("run 3 0 bell 7", 8));
        w.says("what there is no room for: its word;", t -> t.upon(YardEdges.crowd(4, 4)).fault("one 0 0 5 5 0", 0)
            .fault("yards 3; one 0 0 5 5 0", 9).fault("yards 3;one 9", 8)
            .upon(YardEdges.crowd(4, 3)).fault("one 0 0 5 5 0;one 0 0 5 5 0", 14));
        w.says("a byte that begins none);", t -> t.upon(SIX).fault("yards 3!", 7).fault("Bell 7", 0).fault("yards -3", 6)
            .fault("yards 3;\n", 8));
        w.says("THE TAPE's size, if it ends too early.", t -> t.upon(SIX).fault("tired 1", 7).fault("tired 1  ", 9)
            .fault("bell", 4)
            .fault("run 3 0", 7).fault("yards 3; ", 9));
    }
}
