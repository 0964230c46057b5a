/** Promises 28, 29 and 35 to 40: how to stand, leads, the GAME, SISTERS TOGETHER, SWAPS, who COULD. */
public final class AheadTest {
    private static final Check C = new Check("AheadTest");

    private static ThroughTheChain of(String text) {
        ThroughTheChain x = new ThroughTheChain();
        Check.read(x, text);
        return x;
    }

    /** So many in CHAIN 0, of one KIND. */
    private static ThroughTheChain crowd(int n, int sisters) {
        ThroughTheChain x = new ThroughTheChain();
        for (int i = 0; i < n; i++) {
            x.one(0, i < sisters ? 3 : 0, 5, 5, 0);
        }
        return x;
    }

    private static void standAndWorth() {
        // GRIP 1, 5, 9: the 9 belongs between the others, by 0 2 1 or 1 2 0.
        ThroughTheChain x = of("one 0 0 1 0 0;one 0 0 5 0 0;one 0 0 9 0 0;one 1 0 5 5 5");
        C.told(28, x, "stand(0, NONE)", () -> x.stand(0, -1), 8);
        C.told(28, x, "stand(0, 0)", () -> x.stand(0, 0), 0);
        C.told(28, x, "stand(0, 1)", () -> x.stand(0, 1), 2);
        C.told(28, x, "stand(0, 2)", () -> x.stand(0, 2), 1);
        C.told(29, x, "worth(0)", () -> x.worth(0), 4);
        x.move(0, 2);
        // 1 2 0 is as good, but not the first by rows of numbers.
        C.told(28, x, "stand(0, 0), from 1 2 0", () -> x.stand(0, 0), 0);
        C.told(29, x, "worth(0), from 1 2 0", () -> x.worth(0), 0);
        ThroughTheChain two = of("one 0 0 5 0 0;one 0 0 5 0 0");
        two.move(0, 1);
        C.told(28, two, "stand(0, 0), from 1 0", () -> two.stand(0, 0), 0);
        C.told(28, two, "stand(0, NONE) of two", () -> two.stand(0, -1), 8);
        C.told(28, x, "stand(1, NONE), one", () -> x.stand(1, -1), 0);
        C.told(28, x, "stand(1, 0), one", () -> x.stand(1, 0), 3);
        C.told(29, x, "worth(1), one", () -> x.worth(1), 0);
        x.ask(2, 1);
        C.told(28, x, "stand(0, NONE) with WRISTS", () -> x.stand(0, -1), 11);
        C.refused(28, x, "stand(0, 3)", () -> x.stand(0, 3), -2);
        C.refused(28, x, "stand(0, -2)", () -> x.stand(0, -2), -2);
        C.refused(28, x, "stand(2, 0)", () -> x.stand(2, 0), -2);
        C.refused(28, x, "stand(-1, NONE)", () -> x.stand(-1, -1), -2);
        C.refused(29, x, "worth(2)", () -> x.worth(2), -2);
        C.refused(29, x, "worth(-1)", () -> x.worth(-1), -2);
        ThroughTheChain five = Check.five();
        C.told(28, five, "stand(0, NONE) of FIVE", () -> five.stand(0, -1), 14);
        C.told(28, five, "stand(0, 0) of FIVE", () -> five.stand(0, 0), 0);
        C.told(28, five, "stand(1, 0) of FIVE", () -> five.stand(1, 0), 3);
        ThroughTheChain seven = crowd(7, 0);
        C.told(28, seven, "stand of seven", () -> seven.stand(0, -1), 8);
        C.told(28, seven, "the last of seven", () -> seven.stand(0, 6), 6);
        C.told(29, seven, "worth of seven", () -> seven.worth(0), 0);
        ThroughTheChain eight = crowd(8, 0);
        C.refused(28, eight, "stand of eight", () -> eight.stand(0, 7), -6);
        C.refused(28, eight, "stand of eight, least", () -> eight.stand(0, -1), -6);
        C.refused(28, eight, "stand of eight, PLACE 8", () -> eight.stand(0, 8), -2);
        C.refused(29, eight, "worth of eight", () -> eight.worth(0), -6);
        ThroughTheChain none = new ThroughTheChain();
        C.told(28, none, "stand of nobody", () -> none.stand(1, -1), 0);
        C.refused(28, none, "stand of nobody, PLACE 0", () -> none.stand(1, 0), -2);
        C.told(29, none, "worth of nobody", () -> none.worth(1), 0);
    }

    private static void leads() {
        // All HELD: 4 and 3, 3 and 4, by turns.
        ThroughTheChain x = of("one 0 0 20 0 0;one 0 0 20 0 0;one 0 0 20 0 0"
            + ";one 1 0 20 0 0;one 1 0 20 0 0;one 1 0 20 0 0;one 1 0 20 0 0;bell 7");
        C.told(35, x, "leads(0)", () -> x.leads(0), 6);
        C.told(35, x, "leads(1)", () -> x.leads(1), 6);
        x.ask(3, 1);
        C.told(35, x, "leads(0), one RUN: the first doesn't count", () -> x.leads(0), 0);
        x.ask(3, 2);
        C.told(35, x, "leads(0), two RUNS", () -> x.leads(0), 1);
        // 4 and 2, then 3 and 3, then 4 and 2 again: the same one leads.
        ThroughTheChain same = of("one 0 0 20 0 0;one 0 0 20 0 0;one 0 0 20 0 0"
            + ";one 1 0 20 0 0;one 1 0 20 0 0;one 1 0 20 0 0");
        C.told(35, same, "leads(0), always CHAIN 0", () -> same.leads(0), 0);
        C.told(35, new ThroughTheChain(), "leads(0) of nobody", () -> new ThroughTheChain().leads(0), 0);
        C.refused(35, x, "leads(2)", () -> x.leads(2), -2);
        C.refused(35, x, "leads(-1)", () -> x.leads(-1), -2);
    }

    private static void game() {
        ThroughTheChain x = Check.five();
        C.told(36, x, "game(0)", () -> x.game(0), 1);
        C.told(36, x, "game(1): 4 is called and HELD", () -> x.game(1), 3);
        C.told(36, x, "game(2): OVER behind the first", () -> x.game(2), 3);
        C.told(37, x, "first(1)", () -> x.first(1), 4);
        C.told(37, x, "first(2)", () -> x.first(2), 4);
        x.ask(1, 10);
        C.told(36, x, "game(1), whatever SPREAD is", () -> x.game(1), 3);
        C.told(37, x, "first(1), whatever SPREAD is", () -> x.first(1), 4);
        x.ask(4, 1);
        C.told(36, x, "game(0), the other's TURN", () -> x.game(0), -1);
        ThroughTheChain six = of(Check.FIVE + ";one 1 0 0 0 0");
        C.told(36, six, "game(1) of six", () -> six.game(1), 2);
        C.told(37, six, "first(1) of six", () -> six.first(1), 4);
        // Whoever is called first, the other CHAIN comes to 3 and 3 by its own call.
        C.told(36, six, "game(2) of six", () -> six.game(2), 0);
        C.told(37, six, "first(2) of six, of several", () -> six.first(2), 3);
        six.ask(3, 1);
        C.told(36, six, "game(2), BELL 1", () -> six.game(2), 2);
        C.told(37, six, "first(2), BELL 1", () -> six.first(2), 4);
        // All tear: the one who calls loses one.
        ThroughTheChain torn = of("one 0 0 0 20 0;one 0 0 0 20 0;one 1 0 0 20 0;one 1 0 0 20 0");
        C.told(36, torn, "game(1), below 0", () -> torn.game(1), -2);
        C.refused(36, x, "game(3)", () -> x.game(3), -1002);
        C.refused(36, x, "game(-1)", () -> x.game(-1), -1002);
        C.refused(37, x, "first(0)", () -> x.first(0), -2);
        C.refused(37, x, "first(3)", () -> x.first(3), -2);
        C.refused(37, x, "first(-1)", () -> x.first(-1), -2);
        ThroughTheChain over = crowd(3, 0);
        C.refused(36, over, "game(0), OVER", () -> over.game(0), -1005);
        C.refused(36, over, "game(2), OVER", () -> over.game(2), -1005);
        C.refused(36, over, "game(3), OVER", () -> over.game(3), -1002);
        C.refused(37, over, "first(1), OVER", () -> over.first(1), -5);
        C.refused(37, over, "first(0), OVER", () -> over.first(0), -2);
    }

    private static void together() {
        int[][] due = {{0, 0, 0}, {1, 1, 0}, {2, 2, 2}, {2, 1, 0}, {3, 2, 4}, {4, 2, 12}, {4, 3, 24}, {5, 3, 108},
            {7, 0, 0}, {7, 1, 0}, {7, 2, 1440}, {7, 4, 4896}, {7, 5, 5040}, {7, 7, 5040}};
        for (int[] d : due) {
            ThroughTheChain x = crowd(d[0], d[1]);
            C.told(38, x, "together of " + d[0] + " with " + d[1] + " SISTERS", () -> x.together(0), d[2]);
        }
        ThroughTheChain eight = crowd(8, 4);
        C.refused(38, eight, "together of eight", () -> eight.together(0), -6);
        C.told(38, eight, "together of nobody", () -> eight.together(1), 0);
        C.refused(38, eight, "together(2)", () -> eight.together(2), -2);
        C.refused(38, eight, "together(-1)", () -> eight.together(-1), -2);
    }

    private static void swap() {
        ThroughTheChain x = of("one 0 0 1 0 0;one 0 0 5 0 0;one 0 0 9 0 0;one 1 0 9 0 0");
        C.told(39, x, "swap(0, 0)", () -> x.swap(0, 0), 1);
        C.told(39, x, "swap(0, 1)", () -> x.swap(0, 1), 4);
        x.move(1, 2);
        // From 0 2 1 all changes are for the worse, both to 4.
        C.told(39, x, "swap(0, 0), of several", () -> x.swap(0, 0), 0);
        C.told(39, x, "swap(0, 1), below 0", () -> x.swap(0, 1), -4);
        C.refused(39, x, "swap(1, 0), one", () -> x.swap(1, 0), -1005);
        C.refused(39, x, "swap(1, 1), one", () -> x.swap(1, 1), -1005);
        C.refused(39, x, "swap(1, 2), one", () -> x.swap(1, 2), -1002);
        C.refused(39, x, "swap(2, 0)", () -> x.swap(2, 0), -1002);
        C.refused(39, x, "swap(-1, 0)", () -> x.swap(-1, 0), -1002);
        C.refused(39, x, "swap(0, -1)", () -> x.swap(0, -1), -1002);
        x.one(1, 0, 0, 0, 0);
        C.told(39, x, "swap(1, 0), two", () -> x.swap(1, 0), 0);
        C.told(39, x, "swap(1, 1), two", () -> x.swap(1, 1), 0);
        ThroughTheChain eight = crowd(8, 0);
        C.told(39, eight, "swap of eight", () -> eight.swap(0, 1), 0);
    }

    private static void could() {
        ThroughTheChain x = Check.five();
        C.told(40, x, "could(0, 0)", () -> x.could(0, 0), 8);
        C.told(40, x, "could(0, 1)", () -> x.could(0, 1), 8);
        C.told(40, x, "could(1, 0)", () -> x.could(1, 0), 0);
        x.ask(1, 4);
        C.told(40, x, "could(0, 0) by SPREAD 4", () -> x.could(0, 0), 24);
        C.told(40, x, "could(0, 1) by SPREAD 4", () -> x.could(0, 1), 8);
        C.told(40, x, "could(1, 0) by SPREAD 4", () -> x.could(1, 0), 8);
        C.told(40, x, "could(1, 1) by SPREAD 4", () -> x.could(1, 1), 0);
        x.ask(4, 1);
        C.told(40, x, "could(0, 0), the other's TURN", () -> x.could(0, 0), 1);
        C.refused(40, x, "could(1, 0), the other's TURN", () -> x.could(1, 0), -2);
        C.refused(40, x, "could(-1, 0)", () -> x.could(-1, 0), -2);
        C.refused(40, x, "could(0, 2)", () -> x.could(0, 2), -2);
        C.refused(40, x, "could(0, -1)", () -> x.could(0, -1), -2);
        ThroughTheChain alone = crowd(3, 0);
        C.told(40, alone, "could, nobody to be called", () -> alone.could(0, 0), 0);
    }

    public static void main(String[] args) {
        standAndWorth();
        leads();
        game();
        together();
        swap();
        could();
        C.end();
    }
}
