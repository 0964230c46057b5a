/** Promises 9 to 16: PEOPLE told, what is agreed on, THE TAPE, and yards read from it. */
public final class YardTest {
    private static final Check C = new Check("YardTest");

    private static void one() {
        ThroughTheChain x = new ThroughTheChain();
        C.due(9, "one(0, 0, 0, 0, 0)", x.one(0, 0, 0, 0, 0), 0);
        C.due(9, "one(1, 5, 20, 19, 9)", x.one(1, 5, 20, 19, 9), 1);
        C.due(9, "one(0, 4, 1, 20, 3)", x.one(0, 4, 1, 20, 3), 2);
        int[] due = {4, 1, 20, 0, 3, 0, 1, 26};
        for (int what = 0; what < 8; what++) {
            C.due(9, "oneOf(2, " + what + ")", x.oneOf(2, what), due[what]);
        }
        C.due(9, "CHAIN 0", Check.line(x, 0), 102);
        C.due(9, "CHAIN 1", Check.line(x, 1), 11);
        int[][] bad = {{-1, 0, 0, 0, 0}, {2, 0, 0, 0, 0}, {0, -1, 0, 0, 0}, {0, 6, 0, 0, 0}, {0, 0, -1, 0, 0},
            {0, 0, 21, 0, 0}, {0, 0, 0, -1, 0}, {0, 0, 0, 21, 0}, {0, 0, 0, 0, -1}, {0, 0, 0, 0, 10}};
        for (int[] b : bad) {
            C.refused(9, x, "one with a bad number", () -> x.one(b[0], b[1], b[2], b[3], b[4]), -2);
        }
        for (int i = 3; i < 8; i++) {
            C.due(9, "one more", x.one(1, 0, 5, 5, 5), i);
        }
        C.refused(9, x, "a ninth", () -> x.one(0, 0, 5, 5, 5), -6);
        C.refused(9, x, "a bad ninth", () -> x.one(2, 0, 5, 5, 5), -2);
    }

    private static void tell() {
        ThroughTheChain x = Check.five();
        C.due(10, "tell(3, 0, 20)", x.tell(3, 0, 20), 9);
        C.due(10, "tell(3, 1, 0)", x.tell(3, 1, 0), 14);
        C.due(10, "tell(3, 2, 7)", x.tell(3, 2, 7), 0);
        C.due(10, "tell(3, 0, 1)", x.tell(3, 0, 1), 20);
        C.due(10, "tell(3, 1, 2)", x.tell(3, 1, 2), 0);
        C.due(10, "tell(3, 2, 20)", x.tell(3, 2, 20), 7);
        C.due(10, "GRIP", x.oneOf(3, 1), 1);
        C.due(10, "WEIGHT", x.oneOf(3, 2), 2);
        C.due(10, "TIRED", x.oneOf(3, 3), 20);
        C.due(10, "TIRED of another", x.oneOf(4, 3), 0);
        C.refused(10, x, "tell(5, 0, 0)", () -> x.tell(5, 0, 0), -2);
        C.refused(10, x, "tell(-1, 0, 0)", () -> x.tell(-1, 0, 0), -2);
        C.refused(10, x, "tell(0, 3, 0)", () -> x.tell(0, 3, 0), -2);
        C.refused(10, x, "tell(0, -1, 0)", () -> x.tell(0, -1, 0), -2);
        C.refused(10, x, "tell(0, 0, 21)", () -> x.tell(0, 0, 21), -2);
        C.refused(10, x, "tell(0, 2, -1)", () -> x.tell(0, 2, -1), -2);
    }

    private static void ask() {
        int[] least = {0, 1, 0, 1, 0};
        int[] most = {30, 10, 1, 99, 1};
        int[] first = {9, 1, 0, 20, 0};
        int[] status = {3, 4, 5, 6, 2};
        ThroughTheChain x = new ThroughTheChain();
        for (int what = 0; what < 5; what++) {
            int w = what;
            C.due(11, "ask for the most of " + w, x.ask(w, most[w]), first[w]);
            C.due(11, "status of the most of " + w, x.status(status[w]), most[w]);
            C.due(11, "ask for the least of " + w, x.ask(w, least[w]), most[w]);
            C.due(11, "status of the least of " + w, x.status(status[w]), least[w]);
            C.refused(11, x, "ask for less of " + w, () -> x.ask(w, least[w] - 1), -2);
            C.refused(11, x, "ask for more of " + w, () -> x.ask(w, most[w] + 1), -2);
        }
        C.refused(11, x, "ask(5, 1)", () -> x.ask(5, 1), -2);
        C.refused(11, x, "ask(-1, 1)", () -> x.ask(-1, 1), -2);
    }

    private static void feedAndWipe() {
        ThroughTheChain x = new ThroughTheChain();
        C.due(13, "wipe of nothing", x.wipe(), 0);
        C.due(12, "feed(0)", x.feed(0), 1);
        C.due(12, "feed(255)", x.feed(255), 2);
        C.refused(12, x, "feed(-1)", () -> x.feed(-1), -2);
        C.refused(12, x, "feed(256)", () -> x.feed(256), -2);
        C.due(13, "wipe", x.wipe(), 2);
        C.due(13, "status(8)", x.status(8), 0);
        for (int i = 1; i <= 250; i++) {
            C.due(12, "feed " + i, x.feed(32), i);
        }
        C.refused(12, x, "feed of a full TAPE", () -> x.feed(32), -6);
        C.refused(12, x, "feed(256) of a full TAPE", () -> x.feed(256), -2);
        C.due(13, "wipe of a full TAPE", x.wipe(), 250);
        C.due(12, "feed behind a wipe", x.feed(32), 1);
    }

    /** A yard that may not be, upon FIVE: its FAULT, BAD counted once, THE TAPE empty and all else as it was. */
    private static void fault(String text, int place) {
        faultUpon(Check.five(), text, place);
    }

    private static void faultUpon(ThroughTheChain x, String text, int place) {
        C.refused(14, x, "yard of '" + text + "'", () -> Check.read(x, text), -20 - place);
    }

    private static void yardThatCanBe() {
        ThroughTheChain x = new ThroughTheChain();
        C.due(14, "FIVE", Check.read(x, Check.FIVE), 5);
        C.due(14, "TAPE", x.status(8), 0);
        C.due(14, "CHAIN 0", Check.line(x, 0), 1012);
        C.due(14, "CHAIN 1", Check.line(x, 1), 134);
        C.due(14, "all of the rest",
            Check.read(x, "  yards30 ;spread 10;wrists 1;  bell 99;tired 4 20;tired 4 07;one 1 2 3 4 5 "), 7);
        int[] due = {6, 0, 0, 30, 10, 1, 99, 7};
        for (int what = 0; what < due.length; what++) {
            C.due(14, "status(" + what + ")", x.status(what), due[what]);
        }
        int[] last = {2, 3, 4, 0, 5, 1, 2, 14};
        for (int what = 0; what < 8; what++) {
            C.due(14, "oneOf(5, " + what + ")", x.oneOf(5, what), last[what]);
        }
        C.due(14, "the least", Check.read(x, "yards 0;spread 1;wrists 0;bell 1;tired 4 0;tired 0 0"), 6);
        int[] least = {6, 0, 0, 0, 1, 0, 1, 0};
        for (int what = 0; what < least.length; what++) {
            C.due(14, "status(" + what + ")", x.status(what), least[what]);
        }
        C.due(14, "a yard with a FAULT", Check.read(x, "yards 31"), -26);
        C.due(14, "a yard behind one with a FAULT", Check.read(x, "yards 30"), 1);
        C.due(14, "no blanks", Check.read(new ThroughTheChain(), "bell1;bell99"), 2);
    }

    private static void runsInYards() {
        ThroughTheChain x = Check.five();
        // 3 has FORCE 20: JOINT 0 (14) must tear, JOINT 1 (22) must hold; 4 (13) tears none.
        C.due(14, "run 3 0 1", Check.read(x, "run 3 0 1"), 1);
        C.due(14, "CHAIN 0 behind it", Check.line(x, 0), 102);
        C.due(14, "CHAIN 1 behind it", Check.line(x, 1), 1431);
        C.due(14, "TURN", x.status(2), 1);
        C.due(14, "RUNS", x.status(1), 1);
        C.due(14, "TIRED", x.status(7), 2);
        C.due(14, "SEED stays", x.status(9), 1);

        ThroughTheChain left = Check.five();
        C.due(14, "run 3 0 0", Check.read(left, "run 3 0 0"), 1);
        C.due(14, "CHAIN 1, left", Check.line(left, 1), 1430);

        ThroughTheChain held = Check.five();
        C.due(14, "run 4 1 ", Check.read(held, "run 4 1 ; yards 1"), 2);
        C.due(14, "CHAIN 0, held", Check.line(held, 0), 10142);
        C.due(14, "CHAIN 1, held", Check.line(held, 1), 13);
        C.due(14, "TIRED of 1", held.oneOf(1, 3), 1);
        C.due(14, "TIRED of 2", held.oneOf(2, 3), 1);
        C.due(14, "TIRED of the runner", held.oneOf(4, 3), 0);

        // By SPREAD 4 the ODDS of 4 at JOINT 0 are half: it may tear and may hold, as is told.
        C.due(14, "may tear", Check.read(Check.five(), "spread 4;run 4 0 1"), 2);
        C.due(14, "may hold", Check.read(Check.five(), "spread 4;run 4 0"), 2);
        C.due(14, "a run of one who is new", Check.read(Check.five(), "one 1 0 0 0 0;run 5 0"), 2);
        C.due(14, "two runs, by turns", Check.read(Check.five(), "one 1 0 0 0 0;run 4 0;run 0 0 1"), 3);
    }

    private static void faults() {
        faultUpon(new ThroughTheChain(), "", 0);
        faultUpon(new ThroughTheChain(), "   ", 3);
        fault(";", 0);
        fault("yards 3;", 8);
        fault("yards 3; ", 9);
        fault("yards 3;;yards 3", 8);
        fault("yards", 5);
        fault("yards  ", 7);
        fault("yard 3", 0);
        fault("yardss 3", 0);
        fault("yardsz 3", 0);
        fault("aards 3", 0);
        fault("yardx 3", 0);
        fault(" Yards 3", 1);
        fault("7", 0);
        fault("yards x", 6);
        fault("yards ;", 6);
        fault("yards 3 4", 8);
        fault("yards 3 yards 4", 8);
        fault("yards 31", 6);
        fault("yards 003", 6);
        fault("yards 99999999999999999999", 6);
        fault("yards -1", 6);
        fault("yards 3#", 7);
        fault("yards 3,yards 4", 7);
        fault("yards 3\n", 7);
        fault("yards 3" + (char) 233, 7);
        fault("spread 0", 7);
        fault("spread 11", 7);
        fault("wrists 2", 7);
        fault("bell 0", 5);
        fault("bell 100", 5);
        fault("tired 5 1", 6);
        fault("tired 4 21", 8);
        fault("tired 4", 7);
        fault("one 2 0 0 0 0", 4);
        fault("one 0 6 0 0 0", 6);
        fault("one 0 0 21 0 0", 8);
        fault("one 0 0 0 21 0", 10);
        fault("one 0 0 0 0 10", 12);
        fault("one 0 0 0 0", 11);
        fault("one 0 0 0 0 0 0", 14);
        fault("yards 1;spread 2;oops", 17);
    }

    private static void faultsOfRuns() {
        fault("run 0 0", 4);
        fault("run 5 0", 4);
        fault("run 6 0", 4);
        fault("run 7 0", 4);
        fault("run x", 4);
        fault("run", 3);
        fault("run 3", 5);
        fault("run 3 2 0", 6);
        fault("run 3 9", 6);
        fault("run 3 ;", 6);
        fault("run 4 0 0", 8);
        fault("run 3 1 1", 8);
        fault("run 3 0 2", 8);
        fault("run 3 0 001", 8);
        fault("run 3 0 1 1", 10);
        // What must be TORN has its FAULT at the TOKEN behind J, or at the end.
        fault("run 3 0", 7);
        fault("run 3 0  ", 9);
        fault("run 3 0 ;yards 1", 8);
        fault("run 3 0 yards", 8);
        // The second run is the other CHAIN's.
        fault("one 1 0 0 0 0;run 4 0;run 3 0 1", 26);
        // CHAIN 1 has one only behind the first run.
        fault("run 4 0;run 0 0", 12);
        ThroughTheChain rung = Check.five();
        rung.ask(3, 1);
        faultUpon(rung, "one 1 0 0 0 0;run 4 0;run 0 0", 26);
        faultUpon(new ThroughTheChain(), "tired 0 0", 6);
        ThroughTheChain full = Check.five();
        Check.read(full, "one 0 0 0 0 0;one 0 0 0 0 0;one 0 0 0 0 0");
        faultUpon(full, "bell 3; one 0 0 0 0 0", 8);
        faultUpon(full, "bell 3; one 9", 8);
    }

    private static void oneOfAndChainOf() {
        ThroughTheChain x = Check.five();
        x.tell(3, 2, 2);
        int[] due = {4, 9, 14, 2, 3, 1, 0, 20};
        for (int what = 0; what < 8; what++) {
            int w = what;
            C.told(15, x, "oneOf(3, " + what + ")", () -> x.oneOf(3, w), due[what]);
        }
        C.told(15, x, "PLACE of 2", () -> x.oneOf(2, 6), 2);
        C.told(15, x, "FORCE of a HAND", () -> x.oneOf(0, 7), 12);
        C.told(15, x, "FORCE of a SISTER", () -> x.oneOf(1, 7), 10);
        C.told(15, x, "FORCE of a SLY", () -> x.oneOf(4, 7), 13);
        x.ask(0, 11);
        C.told(15, x, "a third of 11 YARDS", () -> x.oneOf(0, 7), 12);
        x.ask(0, 12);
        C.told(15, x, "a third of 12 YARDS", () -> x.oneOf(0, 7), 13);
        C.refused(15, x, "oneOf(5, 0)", () -> x.oneOf(5, 0), -2);
        C.refused(15, x, "oneOf(-1, 0)", () -> x.oneOf(-1, 0), -2);
        C.refused(15, x, "oneOf(0, 8)", () -> x.oneOf(0, 8), -2);
        C.refused(15, x, "oneOf(0, -1)", () -> x.oneOf(0, -1), -2);
        C.told(16, x, "chainOf(0, NONE)", () -> x.chainOf(0, -1), 3);
        C.told(16, x, "chainOf(1, NONE)", () -> x.chainOf(1, -1), 2);
        C.told(16, x, "chainOf(0, 2)", () -> x.chainOf(0, 2), 2);
        C.told(16, x, "chainOf(1, 0)", () -> x.chainOf(1, 0), 3);
        C.refused(16, x, "chainOf(0, 3)", () -> x.chainOf(0, 3), -2);
        C.refused(16, x, "chainOf(0, -2)", () -> x.chainOf(0, -2), -2);
        C.refused(16, x, "chainOf(2, NONE)", () -> x.chainOf(2, -1), -2);
        C.refused(16, x, "chainOf(-1, 0)", () -> x.chainOf(-1, 0), -2);
    }

    public static void main(String[] args) {
        one();
        tell();
        ask();
        feedAndWipe();
        yardThatCanBe();
        runsInYards();
        faults();
        faultsOfRuns();
        oneOfAndChainOf();
        C.end();
    }
}
