/** Boundaries of promise 14: yards that are read from THE TAPE, and where their FAULT is. */
final class TapeEdges {
    private static final String SIX = YardEdges.SIX;
    /** STRENGTH 10 in CHAIN 0, the FORCE of 2 its WEIGHT. */
    private static final String WALL = "ask(0, 0) one(0, 0, 6, 0, 0) one(0, 0, 6, 0, 0) one(1, 0, 0, %d, 0) one(1, 0, 0, 0, 0) "
        + "ask(1, %d) ";

    static void all(Edges e) {
        statements(e);
        bytes(e);
        numbers(e);
        endedTooEarly(e);
        runs(e);
        room(e);
        wholeTape(e);
    }

    static String wall(int weight, int spread) {
        return String.format(WALL, weight, spread);
    }

    private static void statements(Edges e) {
        String sentence = "STATEMENTS, one or more, with ; between:";
        e.test(14, sentence, "one and two are taken, none is a FAULT", t -> t.upon(SIX)
            .due("read 'yards 3' = 1 status(3) = 3").due("read 'yards 3;yards 4' = 2 status(3) = 4").fault("", 0).fault(" ", 1)
            .fault(" ".repeat(250), 250));
        e.test(14, sentence, "as many as THE TAPE has room for: 41", t -> t.upon("")
            .due("read '" + "bell7;".repeat(40) + "bell8' = 41 status(6) = 8"));
        e.test(14, sentence, "a ; ahead of the first, behind the last, twice, or left out is a FAULT", t -> t.upon(SIX)
            .fault(";", 0).fault(";yards 3", 0).fault("  ;yards 3", 2).fault("yards 3;", 8).fault("yards 3; ", 9)
            .fault("yards 3;;yards 4", 8).fault("yards 3; ;yards 4", 9).fault("yards 3 yards 4", 8).fault("yards3yards 4", 6));
        e.test(14, "blanks (32) may stand anywhere between", "none, many, ahead of all and behind all", t -> t.upon(SIX)
            .due("read 'yards3;bell7' = 2 status(3) = 3 status(6) = 7")
            .due("read '  yards  3  ;  bell  7  ' = 2 status(3) = 3 status(6) = 7")
            .due("read 'tired 5 20' = 1 oneOf(5, 3) = 20").due("read 'run5 1' = 1 line(0) = 10152").fault("tired 520", 6)
            .fault("run 51", 4));
        e.test(14, "TOKENS, each as long as can be:", "a blank within one makes it two", t -> t.upon(SIX)
            .fault("yar ds 3", 0).fault("yards 3 0", 8).due("read 'yards 30' = 1 status(3) = 30").fault("yardsbell 7", 0)
            .fault("yard 3", 0)
            .fault("yardss 3", 0).fault("ayards 3", 0).fault("zards 3", 0).fault("yardz 3", 0)
            .fault("ane 0 0 0 0 0", 0).fault("xun 3 0 1", 0).fault("tires 0 0", 0).fault("aired 0 0", 0).fault("qpread 1", 0)
            .fault("vrists 1", 0).fault("cell 1", 0).fault("on 0 0 0 0 0", 0).fault("ones 0 0 0 0 0", 0).fault("runs 3 0 1", 0));
        e.test(14, "All comes to what there is, or nothing.",
            "seven STATEMENTS come, and none of them if the eighth is no STATEMENT", t -> t
            .upon(SIX)
            .due("read 'yards 3;spread 2;wrists 1;bell 7;tired 0 9;one 0 0 1 2 3;run 5 0' = 7 status(3) = 3 status(4) = 2 "
                + "status(5) = 1 status(6) = 7 "
                + "oneOf(0, 3) = 10 status(0) = 7 status(1) = 1 status(2) = 1 line(0) = 105126 line(1) = 134")
            .fault("yards 3;spread 2;wrists 1;bell 7;tired 0 9;one 0 0 1 2 3;run 5 0;oops", 65)
            .fault("yards 3;spread 2;wrists 1;bell 7;tired 0 9;one 0 0 1 2 3;run 5 0;bell 0", 70)
            .fault("yards 3;spread 2;wrists 1;bell 7;tired 0 9;one 0 0 1 2 3;run 5 0;", 65));
    }

    private static void bytes(Edges e) {
        String sentence = "WORDS (a .. z), NUMBERS (digits), the SIGN ;";
        String fault = "The FAULT: the place of the first byte of the first TOKEN that can't stand there";
        e.test(14, sentence, "each byte 0 to 255 alone", t -> {
            for (int b = 0; b < 256; b++) {
                t.upon("feed(" + b + ") ").refused("yard() = " + (b == 32 ? -21 : -20));
            }
        });
        e.test(14, sentence, "each byte 0 to 255 just behind a STATEMENT", t -> {
            for (int b = 0; b < 256; b++) {
                int due = b == 32 || b == '0' ? 1 : b >= '1' && b <= '9' ? -26 : b == ';' ? -28 : -27;
                last(t, "feed 'yards 3' feed(" + b + ") ", due);
            }
        });
        e.test(14, sentence, "each byte 0 to 255 between a WORD and its NUMBER", t -> {
            for (int b = 0; b < 256; b++) {
                boolean isDigit = b >= '0' && b <= '9';
                int due = b == 32 || b >= '0' && b <= '2' ? 1 : isDigit ? -25 : b >= 'a' && b <= 'z' ? -20 : -25;
                last(t, "feed 'yards' feed(" + b + ") feed(51) ", due);
            }
        });
        e.test(14, sentence, "each byte 0 to 255 ahead of a STATEMENT", t -> {
            for (int b = 0; b < 256; b++) {
                last(t, "feed(" + b + ") feed 'yards 3' ", b == 32 ? 1 : -20);
            }
        });
        e.test(14, "a byte that begins none", "it is the FAULT only if it is the first", t -> t.upon(SIX)
            .fault("yards 3 #", 8).fault("yards 3#", 7).fault("yards 31 #", 6).fault("#yards 3", 0).fault("yards -1", 6)
            .fault("yards 3,bell 7", 7)
            .fault("yards +3", 6).fault("yards 3.", 7).fault("YARDS 3", 0).fault("Yards 3", 0).fault("yards 3\n", 7)
            .fault("yards\t3", 5));
        e.test(14, fault, "its first byte, not its last, of each sort of TOKEN", t -> t.upon(SIX)
            .fault("yards bell", 6).fault("yards   bell", 8).fault("yards ;", 6).fault("7", 0).fault("77", 0)
            .fault("bell 7 77", 7).fault("bell 7 yards", 7));
    }

    private static void last(Edge t, String lead, int due) {
        t.upon(lead);
        if (due < 0) {
            t.refused("yard() = " + due);
        } else {
            t.due("yard() = " + due);
        }
    }

    private static void numbers(Edges e) {
        String sentence = "(also a NUMBER that may not be, or has more than 2 digits;";
        e.test(14, sentence, "one C K G W A: the least and the most of each are taken, one more is its FAULT", t -> t.upon(SIX)
            .due("read 'one 0 0 0 0 0' = 1 oneOf(6, 0) = 0 oneOf(6, 1) = 0 oneOf(6, 2) = 0 oneOf(6, 4) = 0 oneOf(6, 5) = 0 "
                + "oneOf(6, 6) = 3")
            .due("read 'one 1 5 20 20 9' = 1 oneOf(6, 0) = 5 oneOf(6, 1) = 20 oneOf(6, 2) = 20 oneOf(6, 4) = 9 oneOf(6, 5) = 1 "
                + "oneOf(6, 6) = 3")
            .fault("one 2 5 20 20 9", 4).fault("one 1 6 20 20 9", 6).fault("one 1 5 21 20 9", 8).fault("one 1 5 20 21 9", 11)
            .fault("one 1 5 20 20 10", 14));
        e.test(14, sentence, "tired P N: P 0 and the last, N 0 and 20 are taken, one more is its FAULT", t -> t
            .upon(SIX + "tell(0, 2, 4) ")
            .due("read 'tired 0 20' = 1 oneOf(0, 3) = 20").due("read 'tired 5 20' = 1 oneOf(5, 3) = 20")
            .due("read 'tired 0 0' = 1 oneOf(0, 3) = 0")
            .fault("tired 6 0", 6).fault("tired 8 0", 6).fault("tired 0 21", 8).fault("tired 6 21", 6)
            .due("read 'one 0 0 0 0 0;tired 6 20' = 2 oneOf(6, 3) = 20").fault("one 0 0 0 0 0;tired 7 0", 20)
            .upon("")
            .fault("tired 0 0", 6));
        e.test(14, sentence, "yards N: 0 and 30 are taken, 31 is a FAULT", t -> t.upon(SIX)
            .due("read 'yards 0' = 1 status(3) = 0").due("read 'yards 30' = 1 status(3) = 30").fault("yards 31", 6)
            .fault("yards 99", 6));
        e.test(14, sentence, "spread N: 1 and 10 are taken, 0 and 11 are a FAULT", t -> t.upon(SIX + "ask(1, 5) ")
            .due("read 'spread 1' = 1 status(4) = 1").due("read 'spread 10' = 1 status(4) = 10").fault("spread 0", 7)
            .fault("spread 11", 7).fault("spread 00", 7));
        e.test(14, sentence, "wrists N: 0 and 1 are taken, 2 is a FAULT", t -> t.upon(SIX)
            .due("read 'wrists 1' = 1 status(5) = 1").due("read 'wrists 1;wrists 0' = 2 status(5) = 0").fault("wrists 2", 7)
            .fault("wrists 10", 7));
        e.test(14, sentence, "bell N: 1 and 99 are taken, 0 and 100 are a FAULT", t -> t.upon(SIX)
            .due("read 'bell 1' = 1 status(6) = 1").due("read 'bell 99' = 1 status(6) = 99").fault("bell 0", 5)
            .fault("bell 100", 5).fault("bell 00", 5));
        e.test(14, sentence, "1 and 2 digits are taken, 3 are a FAULT, whatever the NUMBER", t -> t.upon(SIX)
            .due("read 'yards 03' = 1 status(3) = 3").due("read 'yards 00' = 1 status(3) = 0")
            .due("read 'one 01 05 00 09 09' = 1 oneOf(6, 0) = 5")
            .due("read 'run 03 00 01' = 1 line(0) = 102").due("read 'tired 05 07' = 1 oneOf(5, 3) = 7").fault("yards 003", 6)
            .fault("yards 000", 6).fault("bell 099", 5).fault("tired 000 7", 6)
            .fault("tired 0 007", 8).fault("one 001 0 0 0 0", 4).fault("one 0 000 0 0 0", 6).fault("one 0 0 000 0 0", 8)
            .fault("one 0 0 0 000 0", 10)
            .fault("one 0 0 0 0 000", 12).fault("run 003 0 1", 4).fault("run 3 000 1", 6).fault("run 3 0 001", 8)
            .fault("run 5 0 000", 8).fault("run 5 0 001", 8));
        e.test(14, sentence, "a NUMBER that would wrap around an int or a long is a FAULT", t -> t.upon(SIX)
            .fault("yards 4294967299", 6).fault("yards 18446744073709551619", 6).fault("run 4294967299 0 1", 4)
            .fault("yards " + "0".repeat(243) + "3", 6));
    }

    private static void endedTooEarly(Edges e) {
        String sentence = "THE TAPE's size, if it ends too early.";
        e.test(14, sentence, "one C K G W A, behind each TOKEN", t -> t.upon(SIX).fault("one", 3).fault("one ", 4)
            .fault("one 0", 5).fault("one 0 0", 7)
            .fault("one 0 0 0", 9).fault("one 0 0 0 0", 11).fault("one 0 0 0 0  ", 13).due("read 'one 0 0 0 0 0' = 1")
            .fault("one 0 0 0 0 0 0", 14));
        e.test(14, sentence, "tired P N, behind each TOKEN", t -> t.upon(SIX).fault("tired", 5).fault("tired 0", 7)
            .fault("tired 0 ", 8)
            .due("read 'tired 0 0' = 1").fault("tired 0 0 0", 10));
        e.test(14, sentence, "yards, spread, wrists, bell, behind the WORD", t -> t.upon(SIX).fault("yards", 5).fault("spread", 6)
            .fault("wrists", 6).fault("bell", 4)
            .fault("bell   ", 7).fault("yards 1;bell", 12).fault("yards 1 1", 8).fault("spread 1 1", 9).fault("wrists 1 1", 9)
            .fault("bell 1 1", 7));
        e.test(14, sentence, "run P J, behind each TOKEN; a third NUMBER is S, a fourth is a FAULT", t -> t.upon(SIX)
            .fault("run", 3).fault("run ", 4)
            .fault("run 5", 5).fault("run 5 ", 6).due("read 'run 5 0' = 1").due("read 'run 3 0 0' = 1").fault("run 3 0 0 0", 10));
        e.test(14, sentence, "ended by ; or a WORD instead, that TOKEN is the FAULT", t -> t.upon(SIX)
            .fault("one 0 0 0 0;bell 1", 11).fault("one 0 0 0 0 bell 1", 12)
            .fault("tired;bell 1", 5).fault("tired 0;bell 1", 7).fault("yards;bell 1", 5).fault("run;bell 1", 3)
            .fault("run 5;bell 1", 5).fault("run 5 bell 1", 6));
    }

    private static void runs(Edges e) {
        String p = "of run: one that isn't in the CHAIN that is called, or the play is OVER: P;";
        e.test(14, p, "the first and the last of the CHAIN that is called are taken, the others and no such one are a FAULT", t -> t
            .upon(SIX)
            .due("read 'run 3 1' = 1 line(0) = 10132").due("read 'run 5 1' = 1 line(0) = 10152").fault("run 0 0", 4)
            .fault("run 2 1", 4).fault("run 6 1", 4)
            .fault("run 7 1", 4).fault("run 8 1", 4).fault("run 99 1", 4)
            .upon(SIX + "ask(4, 1) ")
            .due("read 'run 0 1 1' = 1 line(1) = 134").due("read 'run 2 1 1' = 1 line(0) = 10125").fault("run 3 0", 4)
            .fault("run 5 1", 4)
            .fault("run 6 0", 4).fault("run 7 0", 4).fault("run 8 0", 4)
            .upon(YardEdges.crowd(4, 4) + "ask(4, 1) ")
            .due("read 'run 3 0' = 1").fault("run 8 0", 4));
        e.test(14, p, "two in each CHAIN can run, with one in either it is OVER, with nobody too", t -> t
            .upon("one(0, 0, 20, 0, 0) one(0, 0, 20, 0, 0) one(1, 0, 5, 5, 0) one(1, 0, 5, 5, 0) ")
            .due("read 'run 2 0' = 1 line(0) = 1021 over() = 1")
            .upon("one(0, 0, 20, 0, 0) one(1, 0, 5, 5, 0) one(1, 0, 5, 5, 0) ").fault("run 1 0", 4)
            .upon("one(0, 0, 20, 0, 0) one(0, 0, 20, 0, 0) one(1, 0, 5, 5, 0) ").fault("run 2 0", 4)
            .upon("")
            .fault("run 0 0", 4));
        e.test(14, p, "the last RUN ahead of BELL is taken, the one behind is OVER", t -> t.upon(SIX + "ask(3, 2) ")
            .due("read 'run 5 0;run 1 0' = 2 status(1) = 2 over() = 1").fault("run 5 0;run 1 0;run 3 0", 20)
            .upon(SIX + "ask(3, 1) run(5, 0, 0) ").fault("run 1 0", 4).due("read 'bell 2;run 1 0' = 2 status(1) = 2"));
        e.test(14, p, "a RUN by which a CHAIN has one left makes the next a FAULT", t -> t.upon(YardEdges.FIVE)
            .due("read 'run 4 0' = 1 over() = 1")
            .fault("run 4 0;run 0 0", 12));
        e.test(14, "no such JOINT: J;", "JOINT 0 and the last are taken, the one behind is a FAULT", t -> t.upon(SIX)
            .due("read 'run 5 0' = 1 line(0) = 10512").due("read 'run 5 1' = 1 line(0) = 10152").fault("run 5 2", 6)
            .fault("run 5 9", 6).fault("run 5 99", 6)
            .fault("run 5 02 1", 6));
        e.test(14, "no such JOINT: J;", "P is the FAULT ahead of J, and J ahead of S", t -> t.upon(SIX).fault("run 0 2 2", 4)
            .fault("run 6 9", 4).fault("run 5 2 2", 6)
            .fault("run 5 2 0", 6).fault("run 5 # #", 6));
        e.test(14, "run P J S (a RUN in truth of P at JOINT J that is TORN, and takes, by S 0 the left, 1 the right one; if it "
            + "can be TORN by its ODDS)",
            "S 0 and 1 are taken, 2 is a FAULT", t -> t.upon(SIX).due("read 'run 3 0 0' = 1 line(0) = 112 line(1) = 14530")
            .due("read 'run 3 0 1' = 1 line(0) = 102 line(1) = 14531").fault("run 3 0 2", 8).fault("run 3 0 10", 8));
        e.test(14, "one that can't be TORN: S;", "ODDS 0 are a FAULT, the least above 0 are taken", t -> t
            .upon(wall(10, 1)).fault("run 2 0 0", 8).fault("run 2 0 1", 8)
            .upon(wall(11, 1))
            .due("read 'run 2 0 0' = 1 chainOf(1, NONE) = 3")
            .upon(wall(1, 10)).fault("run 2 0 0", 8).fault("run 2 0 2", 8)
            .upon(wall(2, 10))
            .due("read 'run 2 0 1' = 1 chainOf(1, NONE) = 3"));
        e.test(14, "or run P J (that HOLDS, if it can).", "the most ODDS below 1,000,000 are taken", t -> t
            .upon(wall(10, 10)).due("read 'run 2 0' = 1 line(0) = 1021").due("read 'run 2 0 0' = 1 line(0) = 11")
            .upon(wall(10, 1)).due("read 'run 2 0' = 1 line(0) = 1021"));
        e.test(14, "one that must be: the TOKEN behind J;", "ODDS 1,000,000 are a FAULT there, or at THE TAPE's end", t -> t
            .upon(wall(11, 10)).fault("run 2 0;bell 1", 7).fault("run 2 0  ;bell 1", 9).fault("run 2 0 bell", 8)
            .fault("run 2 0", 7).fault("run 2 0   ", 10)
            .fault("run 2 0 #", 8)
            .upon(wall(11, 1)).fault("run 2 0", 7).fault("run 2 0;", 7));
        e.test(14, "run P J S (a RUN in truth of P at JOINT J that is TORN, and takes, by S 0 the left, 1 the right one; if it "
            + "can be TORN by its ODDS)",
            "TURN changes and RUNS grow between RUNS, SEED stays", t -> t.upon(SIX)
                .due("read 'run 5 0;run 1 0;run 4 0 1' = 3 status(1) = 3 status(2) = 1 status(9) = 1")
            .fault("run 5 0;run 4 0", 12));
    }

    private static void room(Edges e) {
        String sentence = "what there is no room for: its word;";
        e.test(14, sentence, "the eighth is taken, the ninth's word is the FAULT", t -> t.upon(SIX)
            .due("read 'one 0 0 0 0 0;one 1 0 0 0 0' = 2 status(0) = 8")
            .fault("one 0 0 0 0 0;one 1 0 0 0 0;one 1 0 0 0 0", 28).fault("one 0 0 0 0 0;one 1 0 0 0 0; one 1 0 0 0 0", 29)
            .upon(YardEdges.crowd(4, 4)).fault("one 0 0 0 0 0", 0).fault(" one 0 0 0 0 0", 1));
        e.test(14, sentence, "it is ahead of any FAULT in its NUMBERS, or their end", t -> t.upon(YardEdges.crowd(8, 0))
            .fault("one 2 9 99 99 99", 0).fault("one", 0)
            .fault("bell 7;one 2", 7).fault("bell 100;one 0 0 0 0 0", 5));
    }

    private static void wholeTape(Edges e) {
        String sentence = "THE TAPE is a YARD: how many STATEMENTS; -20 less the FAULT (that is refused, too: BAD). THE TAPE "
            + "is empty then, either way.";
        String blanks = " ".repeat(242);
        e.test(14, sentence, "THE TAPE is empty behind a YARD and behind a FAULT", t -> t.upon(SIX + "feed 'yards 3' ")
            .due("yard() = 1 status(8) = 0 wipe() = 0 feed(97) = 1")
            .upon(SIX + "feed 'yards 31' yard() ")
            .due("status(8) = 0 wipe() = 0 feed(97) = 1")
            .refused("yard() = -20")
            .upon(SIX + "feed 'yards 3' yard() ").refused("yard() = -20")
            .upon(SIX + "feed 'yards 31' yard() ").due("read 'yards 30' = 1 status(3) = 30").fault("yards 31", 6));
        e.test(14, sentence, "a full TAPE of 250 bytes is a YARD", t -> t.due("read 'yards 3" + blanks + " ' = 1 status(3) = 3")
            .due("read 'yards" + blanks + "  3' = 1 status(3) = 3").due("read ' " + blanks + "yards 3' = 1 status(3) = 3"));
        e.test(14, sentence, "the FAULT at 0, at the last of 250 bytes, and at their end: -20, -269, -270", t -> t
            .fault("#" + blanks + "       ", 0).fault("yards 3" + blanks + "#", 249).fault("yards 3;" + blanks, 250)
            .fault("yards" + blanks + "   ", 250)
            .fault("yards" + blanks + "  x", 249));
        e.test(14, sentence, "what didn't fit on a full TAPE is not read", t -> t.upon("feed 'yards 3" + blanks + " ' feed(35) ")
            .due("yard() = 1 status(3) = 3"));
    }
}
