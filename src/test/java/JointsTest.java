/** Promises 17 to 27 and 31 to 34: STRENGTH, FORCE, ODDS, whom to call and where to run, PLAYS, and what it would need. */
public final class JointsTest {
    private static final Check C = new Check("JointsTest");

    private static ThroughTheChain of(String text) {
        ThroughTheChain x = new ThroughTheChain();
        Check.read(x, text);
        return x;
    }

    /** Of six in CHAIN 0 each KIND once, with GRIP 11, WEIGHT 10, a 4: HOLD 11, 15, 5, 15, 13, 5. */
    private static ThroughTheChain sixKinds() {
        return of("one 0 0 11 10 4;one 0 1 11 10 4;one 0 2 11 10 4;one 0 3 11 10 4;one 0 4 11 10 4;one 0 5 11 10 4");
    }

    private static void strength() {
        ThroughTheChain x = sixKinds();
        int[] due = {24, 20, 20, 28, 16};
        for (int j = 0; j < 5; j++) {
            int joint = j;
            C.told(17, x, "strength(0, " + j + ")", () -> x.strength(0, joint), due[j]);
        }
        x.ask(2, 1);
        C.told(17, x, "with WRISTS, first", () -> x.strength(0, 0), 27);
        C.told(17, x, "with WRISTS, between", () -> x.strength(0, 2), 23);
        C.told(17, x, "with WRISTS, last", () -> x.strength(0, 4), 19);
        x.ask(2, 0);
        x.tell(1, 2, 20);
        C.told(17, x, "FIRM, more TIRED than GRIP", () -> x.strength(0, 0), 13);
        x.tell(2, 2, 2);
        C.told(17, x, "WEAK, TIRED 2", () -> x.strength(0, 1), 8);
        x.tell(4, 1, 7);
        C.told(17, x, "HEAVY, of WEIGHT 7", () -> x.strength(0, 3), 27);
        C.refused(17, x, "strength(0, 5)", () -> x.strength(0, 5), -2);
        C.refused(17, x, "strength(0, -1)", () -> x.strength(0, -1), -2);
        C.refused(17, x, "strength(1, 0)", () -> x.strength(1, 0), -2);
        C.refused(17, x, "strength(2, 0)", () -> x.strength(2, 0), -2);
        ThroughTheChain sisters = of("one 0 3 6 0 2;one 0 3 5 0 1;one 1 0 1 0 0;one 1 0 0 0 0");
        C.told(17, sisters, "two SISTERS, one JOINT", () -> sisters.strength(0, 0), 22);
        C.told(17, sisters, "0 at least", () -> sisters.strength(1, 0), 0);
        sisters.tell(2, 0, 3);
        C.told(17, sisters, "3, 2 less", () -> sisters.strength(1, 0), 1);
    }

    private static void weakestAndStrongest() {
        ThroughTheChain x = sixKinds();
        C.told(18, x, "weakest(0)", () -> x.weakest(0), 4);
        C.told(19, x, "strongest(0)", () -> x.strongest(0), 3);
        x.tell(4, 0, 15);
        C.told(18, x, "weakest(0), of two", () -> x.weakest(0), 1);
        x.tell(0, 0, 18);
        C.told(19, x, "strongest(0), 31 and 32", () -> x.strongest(0), 3);
        x.tell(0, 0, 19);
        C.told(19, x, "strongest(0), of two alike", () -> x.strongest(0), 0);
        ThroughTheChain five = Check.five();
        C.told(18, five, "weakest(0) of FIVE", () -> five.weakest(0), 0);
        C.told(18, five, "weakest(1), one JOINT", () -> five.weakest(1), 0);
        C.told(19, five, "strongest(0) of FIVE", () -> five.strongest(0), 1);
        C.told(19, five, "strongest(1), one JOINT", () -> five.strongest(1), 0);
        C.refused(18, x, "weakest(1)", () -> x.weakest(1), -5);
        C.refused(18, x, "weakest(2)", () -> x.weakest(2), -2);
        C.refused(18, x, "weakest(-1)", () -> x.weakest(-1), -2);
        C.refused(19, x, "strongest(1)", () -> x.strongest(1), -5);
        C.refused(19, x, "strongest(2)", () -> x.strongest(2), -2);
        C.refused(19, x, "strongest(-1)", () -> x.strongest(-1), -2);
        x.one(1, 0, 5, 5, 5);
        C.refused(18, x, "weakest of one", () -> x.weakest(1), -5);
        C.refused(19, x, "strongest of one", () -> x.strongest(1), -5);
    }

    private static void hardest() {
        ThroughTheChain x = sixKinds();
        C.told(20, x, "hardest(0)", () -> x.hardest(0), 4);
        x.tell(2, 1, 14);
        C.told(20, x, "hardest(0), of several", () -> x.hardest(0), 2);
        x.move(4, 0);
        C.told(20, x, "hardest(0), by PLACES", () -> x.hardest(0), 4);
        C.refused(20, x, "hardest(1)", () -> x.hardest(1), -5);
        C.refused(20, x, "hardest(2)", () -> x.hardest(2), -2);
        C.refused(20, x, "hardest(-1)", () -> x.hardest(-1), -2);
        x.one(1, 0, 0, 0, 0);
        C.told(20, x, "hardest of one", () -> x.hardest(1), 6);
    }

    private static void odds() {
        ThroughTheChain x = Check.five();
        C.told(21, x, "odds(3, 0)", () -> x.odds(3, 0), 1000000);
        C.told(21, x, "odds(3, 1)", () -> x.odds(3, 1), 0);
        C.told(21, x, "odds(4, 0)", () -> x.odds(4, 0), 0);
        x.ask(1, 3);
        C.told(21, x, "odds(4, 0) by SPREAD 3", () -> x.odds(4, 0), 333333);
        x.ask(1, 7);
        C.told(21, x, "odds(4, 0) by SPREAD 7", () -> x.odds(4, 0), 714285);
        C.told(21, x, "odds(3, 1) by SPREAD 7", () -> x.odds(3, 1), 571428);
        C.told(21, x, "odds(3, 0) by SPREAD 7", () -> x.odds(3, 0), 1000000);
        C.refused(21, x, "odds(0, 0)", () -> x.odds(0, 0), -5);
        C.refused(21, x, "odds(0, 2)", () -> x.odds(0, 2), -2);
        C.refused(21, x, "odds(3, 2)", () -> x.odds(3, 2), -2);
        C.refused(21, x, "odds(3, -1)", () -> x.odds(3, -1), -2);
        C.refused(21, x, "odds(5, 0)", () -> x.odds(5, 0), -2);
        C.refused(21, x, "odds(-1, 0)", () -> x.odds(-1, 0), -2);
        x.ask(4, 1);
        // FORCE of 0 is 12, of CHAIN 1's only JOINT the STRENGTH 14.
        C.told(21, x, "odds(0, 0), the other's TURN", () -> x.odds(0, 0), 571428);
        C.refused(21, x, "odds(3, 0), the other's TURN", () -> x.odds(3, 0), -5);
        ThroughTheChain rung = of(Check.FIVE + ";one 1 0 0 0 0;bell 1;run 4 1");
        C.due(21, "OVER by BELL", rung.over(), 1);
        C.told(21, rung, "odds though it is OVER", () -> rung.odds(0, 0), 1000000);
    }

    private static void at() {
        ThroughTheChain x = Check.five();
        C.told(22, x, "at(3)", () -> x.at(3), 0);
        C.told(22, x, "at(4), all alike", () -> x.at(4), 0);
        x.move(2, 0);
        C.due(22, "CHAIN 0", Check.line(x, 0), 1201);
        // 2 0 1: STRENGTH 6 and 8, 2 less: 12; 8 and 8, 2 less: 14.
        C.told(22, x, "at(3), both sure", () -> x.at(3), 0);
        x.move(0, 2);
        C.told(22, x, "at(3), the second", () -> x.at(3), 1);
        C.refused(22, x, "at(0)", () -> x.at(0), -5);
        C.refused(22, x, "at(5)", () -> x.at(5), -2);
        C.refused(22, x, "at(-1)", () -> x.at(-1), -2);
        x.ask(3, 1);
        x.run(4, 1, 0);
        C.refused(22, x, "at(0), OVER", () -> x.at(0), -5);
        C.refused(22, x, "at(9), OVER", () -> x.at(9), -2);
    }

    private static void take() {
        ThroughTheChain x = Check.five();
        C.told(23, x, "take(0), both alike", () -> x.take(0), 0);
        C.told(23, x, "take(1)", () -> x.take(1), 0);
        x.tell(0, 2, 1);
        C.told(23, x, "take(0), the left TIRED", () -> x.take(0), 1);
        // Beside each other the SISTERS hold 13 - 3 and 11.
        x.tell(1, 2, 3);
        C.told(23, x, "take(1), the left TIRED", () -> x.take(1), 1);
        C.refused(23, x, "take(2)", () -> x.take(2), -2);
        C.refused(23, x, "take(-1)", () -> x.take(-1), -2);
        x.ask(4, 1);
        C.told(23, x, "take(0) of CHAIN 1", () -> x.take(0), 0);
        C.refused(23, x, "take(1) of CHAIN 1", () -> x.take(1), -2);
    }

    private static void call() {
        ThroughTheChain x = Check.five();
        C.told(24, x, "call()", () -> x.call(), 4);
        x.tell(3, 1, 8);
        C.told(24, x, "call(), both 0", () -> x.call(), 3);
        x.move(4, 0);
        C.told(24, x, "call(), by numbers", () -> x.call(), 3);
        x.ask(4, 1);
        C.told(24, x, "call(), the other's TURN", () -> x.call(), 0);
        x.tell(0, 1, 20);
        C.told(24, x, "call(), not the first", () -> x.call(), 1);
        ThroughTheChain few = of("one 0 0 5 5 0;one 0 0 5 5 0;one 1 0 5 5 0");
        C.refused(24, few, "call(), OVER", () -> few.call(), -5);
    }

    private static void wonAndOver() {
        ThroughTheChain x = Check.five();
        C.told(25, x, "won()", () -> x.won(), -1);
        C.told(26, x, "over()", () -> x.over(), 0);
        x.ask(3, 1);
        C.told(26, x, "over() ahead of BELL", () -> x.over(), 0);
        x.run(4, 1, 0);
        C.told(26, x, "over() by BELL", () -> x.over(), 1);
        C.told(25, x, "won() by BELL", () -> x.won(), 0);
        ThroughTheChain alike = of("one 0 0 5 5 0;one 0 0 5 5 0;one 1 0 5 5 0;one 1 0 5 5 0;one 1 0 5 5 0;bell 1;run 2 0");
        C.due(26, "CHAINS", alike.chainOf(0, -1) * 10 + alike.chainOf(1, -1), 32);
        C.told(26, alike, "over()", () -> alike.over(), 1);
        C.told(25, alike, "won()", () -> alike.won(), 0);
        ThroughTheChain neither = of("one 0 0 5 5 0;one 0 0 5 5 0;one 1 0 5 5 0;one 1 0 5 5 0;one 1 0 5 5 0;one 1 0 5 5 0;bell 1;run 2 0");
        C.told(26, neither, "over()", () -> neither.over(), 1);
        C.told(25, neither, "won(), 3 and 3", () -> neither.won(), -1);
        ThroughTheChain one = of("one 1 0 5 5 0;one 1 0 5 5 0");
        C.told(26, one, "over(), nobody in CHAIN 0", () -> one.over(), 1);
        C.told(25, one, "won()", () -> one.won(), 1);
        one.one(0, 0, 5, 5, 0);
        C.told(26, one, "over(), one in CHAIN 0", () -> one.over(), 1);
        one.one(0, 0, 5, 5, 0);
        C.told(26, one, "over(), two in CHAIN 0", () -> one.over(), 0);
        // RUNS above a BELL that was lowered: it has rung.
        ThroughTheChain rung = of("one 0 0 20 0 0;one 0 0 20 0 0;one 0 0 20 0 0;one 1 0 20 0 0;one 1 0 20 0 0;one 1 0 20 0 0");
        C.due(26, "runs(2)", rung.runs(2), 0);
        C.told(26, rung, "over() behind two RUNS", () -> rung.over(), 0);
        rung.ask(3, 1);
        C.told(26, rung, "over(), BELL 1 behind two RUNS", () -> rung.over(), 1);
    }

    private static void play() {
        // Nobody can tear a JOINT.
        ThroughTheChain held = of("one 0 0 20 0 0;one 0 0 20 0 0;one 1 0 20 0 0;one 1 0 20 0 0");
        C.told(27, held, "play(0, 1): one run", () -> held.play(0, 1), 1);
        C.told(27, held, "play(0, 0): CHAIN 0", () -> held.play(0, 0), 0);
        C.told(27, held, "play(0, 2): has three", () -> held.play(0, 2), 3);
        // Rule 0 calls 2, whose ODDS are 0; rule 1 calls 3, who is lighter, but SLY: TORN, and 0 goes home with 3.
        ThroughTheChain light = of("one 0 0 9 0 0;one 0 0 9 0 0;one 1 0 9 13 0;one 1 5 9 12 0;yards 9;spread 1");
        C.due(27, "odds(2, 0)", light.odds(2, 0), 0);
        C.due(27, "odds(3, 0)", light.odds(3, 0), 1000000);
        C.told(27, light, "play(0, 0)", () -> light.play(0, 0), 0);
        C.told(27, light, "play(1, 0)", () -> light.play(1, 0), 1);
        C.told(27, light, "play(1, 1)", () -> light.play(1, 1), 1);
        C.told(27, light, "play(1, 2)", () -> light.play(1, 2), 1);
        C.told(27, light, "play(0, 2)", () -> light.play(0, 2), 3);
        // ODDS of just a half are enough, less are not.
        ThroughTheChain half = of("one 0 0 9 0 0;one 0 0 9 0 0;one 1 0 9 13 0;one 1 0 9 13 0;spread 2");
        C.due(27, "odds(2, 0)", half.odds(2, 0), 500000);
        C.told(27, half, "play(0, 0), half", () -> half.play(0, 0), 1);
        half.ask(1, 3);
        half.tell(2, 1, 12);
        half.tell(3, 1, 12);
        C.due(27, "odds(2, 0)", half.odds(2, 0), 333333);
        C.told(27, half, "play(0, 0), a third", () -> half.play(0, 0), 0);
        // BELL ends it.
        ThroughTheChain bell = of("one 0 0 20 0 0;one 0 0 20 0 0;one 0 0 20 0 0;one 1 0 20 0 0;one 1 0 20 0 0;one 1 0 20 0 0;bell 7");
        C.told(27, bell, "play(0, 1), BELL 7", () -> bell.play(0, 1), 7);
        C.told(27, bell, "play(0, 2), BELL 7", () -> bell.play(0, 2), 4);
        C.told(27, bell, "play(0, 0), BELL 7", () -> bell.play(0, 0), 0);
        bell.ask(3, 8);
        C.told(27, bell, "play(0, 0), BELL 8: NONE", () -> bell.play(0, 0), -1);
        bell.ask(3, 99);
        for (int i = 0; i < 6; i++) {
            bell.tell(i, 1, 0);
            bell.tell(i, 0, 20);
        }
        bell.ask(0, 0);
        C.told(27, bell, "play(0, 1), BELL 99", () -> bell.play(0, 1), 99);
        bell.ask(3, 8);
        bell.runs(3);
        C.told(27, bell, "play(0, 1), 3 RUNS behind", () -> bell.play(0, 1), 5);
        ThroughTheChain none = new ThroughTheChain();
        C.told(27, none, "play(0, 0) of nobody", () -> none.play(0, 0), -1);
        C.told(27, none, "play(1, 1) of nobody", () -> none.play(1, 1), 0);
        C.told(27, none, "play(1, 2) of nobody", () -> none.play(1, 2), 0);
        C.refused(27, held, "play(2, 0)", () -> held.play(2, 0), -2);
        C.refused(27, held, "play(-1, 0)", () -> held.play(-1, 0), -2);
        C.refused(27, held, "play(0, 3)", () -> held.play(0, 3), -2);
        C.refused(27, held, "play(0, -1)", () -> held.play(0, -1), -2);
    }

    private static void pairAndTiredest() {
        ThroughTheChain x = Check.five();
        // 0 and 3: 20; 1 and 2: 24; 1 and 3: 20.
        C.told(31, x, "pair()", () -> x.pair(), 12);
        x.tell(3, 0, 13);
        C.told(31, x, "pair(), 0 and 3 alike to 1 and 2", () -> x.pair(), 3);
        x.tell(2, 0, 6);
        C.told(31, x, "pair(), 1 and 2 again", () -> x.pair(), 12);
        x.tell(3, 0, 20);
        x.tell(4, 0, 20);
        C.told(31, x, "pair(), of one CHAIN", () -> x.pair(), 34);
        ThroughTheChain one = of("one 1 0 5 5 5");
        C.refused(31, one, "pair() of one", () -> one.pair(), -5);
        C.told(32, one, "tiredest() of one", () -> one.tiredest(), 0);
        one.one(0, 0, 0, 0, 0);
        C.told(31, one, "pair() of two", () -> one.pair(), 1);
        C.told(32, one, "tiredest(), both alike", () -> one.tiredest(), 0);
        one.tell(1, 2, 1);
        C.told(32, one, "tiredest()", () -> one.tiredest(), 1);
        one.tell(0, 2, 1);
        C.told(32, one, "tiredest(), both alike again", () -> one.tiredest(), 0);
        ThroughTheChain none = new ThroughTheChain();
        C.refused(31, none, "pair() of nobody", () -> none.pair(), -5);
        C.refused(32, none, "tiredest() of nobody", () -> none.tiredest(), -5);
    }

    private static void spreadForAndYardsFor() {
        ThroughTheChain x = Check.five();
        C.told(33, x, "spreadFor(3, 0): 20 above 14", () -> x.spreadFor(3, 0), 1);
        C.told(33, x, "spreadFor(3, 1): 20 and 3 above 22", () -> x.spreadFor(3, 1), 4);
        C.told(33, x, "spreadFor(4, 0): 13 and 2 above 14", () -> x.spreadFor(4, 0), 3);
        C.told(33, x, "spreadFor(4, 1): 13 and 9 not above 22", () -> x.spreadFor(4, 1), -1);
        x.tell(4, 1, 9);
        C.told(33, x, "spreadFor(4, 1): 14 and 9 above 22", () -> x.spreadFor(4, 1), 10);
        x.ask(1, 10);
        C.told(33, x, "spreadFor(3, 1), whatever SPREAD is", () -> x.spreadFor(3, 1), 4);
        x.tell(4, 1, 8);
        // Without YARDS the FORCE of 3 is 17, of 4 it is 10.
        C.told(34, x, "yardsFor(3, 0)", () -> x.yardsFor(3, 0), 0);
        C.told(34, x, "yardsFor(3, 1)", () -> x.yardsFor(3, 1), 18);
        C.told(34, x, "yardsFor(4, 0)", () -> x.yardsFor(4, 0), 15);
        C.told(34, x, "yardsFor(4, 1)", () -> x.yardsFor(4, 1), -1);
        x.tell(4, 1, 11);
        C.told(34, x, "yardsFor(4, 1), all 30", () -> x.yardsFor(4, 1), 30);
        x.ask(0, 30);
        C.told(34, x, "yardsFor(3, 1), whatever YARDS are", () -> x.yardsFor(3, 1), 18);
        for (int p = 33; p <= 34; p++) {
            boolean isSpread = p == 33;
            int[][] calls = {{5, 0, -2}, {-1, 0, -2}, {3, 2, -2}, {3, -1, -2}, {0, 2, -2}, {0, 0, -5}};
            for (int[] c : calls) {
                C.refused(p, x, (isSpread ? "spreadFor" : "yardsFor") + "(" + c[0] + ", " + c[1] + ")",
                    () -> isSpread ? x.spreadFor(c[0], c[1]) : x.yardsFor(c[0], c[1]), c[2]);
            }
        }
    }

    public static void main(String[] args) {
        strength();
        weakestAndStrongest();
        hardest();
        odds();
        at();
        take();
        call();
        wonAndOver();
        play();
        pairAndTiredest();
        spreadForAndYardsFor();
        C.end();
    }
}
