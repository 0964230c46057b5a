/** The document's third part, WHAT COMES OF IT, and the REFUSALS. */
final class ThoughtWalk {
    private static final String SIX = YardEdges.SIX;

    static void all(Walk w) {
        nothingIsChanged(w);
        w.passes("text");
        choices(w);
        plays(w);
        stands(w);
        games(w);
        sistersAndSwaps(w);
        books(w);
        inTruth(w);
        shelves(w);
        refusals(w);
    }

    /** CHAIN 0 by its GRIPS, CHAIN 1 by its WEIGHTS, which are FORCE, since YARDS are 0. */
    static String sides(String grips, String weights) {
        StringBuilder b = new StringBuilder("ask(0, 0) ");
        for (String grip : grips.split(" ")) {
            b.append("one(0, 0, ").append(grip).append(", 0, 0) ");
        }
        for (String weight : weights.split(" ")) {
            b.append("one(1, 0, 0, ").append(weight).append(", 0) ");
        }
        return b.toString();
    }

    private static void nothingIsChanged(Walk w) {
        w.says("==== 3. WHAT COMES OF IT (in thought; nothing is changed)", t -> t
            .upon(SIX + "ask(1, 10) ask(3, 99) fill 0 2: 3001 ")
            .same("at(3) take(0) call() play(0, 0) play(1, 1) leads(0) leads(1) stand(0, 1) worth(1) game(1) game(2) first(1) "
            + "first(2)")
            .same("together(0) swap(0, 0) swap(0, 1) could(0, 0) could(0, 1) judge(0, 1) behind(0, 1, 0) behind(0, 1, 1) "
            + "behind(0, 1, 2)"));
    }

    private static void choices(Walk w) {
        // STRENGTH 22, 12, 6, 1; then 8, 2, 2, 8.
        w.says("AT of one of the CHAIN that is called: the JOINT with the greatest ODDS, of several the first.", t -> t
            .upon(sides("16 8 4 2 1", "5 0")).same("at(5) = 3 at(6) = 0")
            .upon(sides("16 8 4 2 1", "5 0") + "ask(1, 10) ").same("at(5) = 3 at(6) = 3")
            .upon(sides("16 8 4 2 1", "7 7")).same("at(5) = 2")
            .upon(sides("9 1 1 1 9", "5 0")).same("at(5) = 1")
            .upon(sides("9 1 1 1 9", "20 0")).same("at(5) = 0"));
        w.says("TAKE at a JOINT: the side of the greater HOLD (each beside the other), of both alike 0.", t -> t
            .upon(sides("5 6 6 5", "0 0")).same("take(0) = 1 take(1) = 0 take(2) = 0")
            .upon("one(0, 3, 3, 0, 0) one(0, 0, 6, 0, 0) ").same("take(0) = 1")
            .upon("one(0, 0, 6, 0, 0) one(0, 3, 3, 0, 0) one(0, 3, 2, 0, 0) ").same("take(0) = 0 take(1) = 0")
            .upon("one(0, 2, 9, 0, 0) one(0, 0, 5, 0, 0) ").same("take(0) = 1"));
        // STRENGTH 10: of 4 numbers 2, 1, 1 and 4; then 10 and 4, where 4 alone can't tear.
        w.says("CALL: of those that can be called the one whose ODDS AT are least, of several the first by numbers.", t -> t
            .upon(sides("6 6", "9 8 8 12") + "ask(1, 4) ").same("call() = 3")
            .upon(sides("6 6", "9 8 8 12") + "ask(1, 4) move(4, 0) ").same("call() = 3")
            .upon(sides("6 6 0", "2 1") + "ask(1, 4) ").same("call() = 4")
            .upon(sides("6 6 0", "1 1") + "ask(1, 4) move(4, 0) ").same("call() = 3"));
    }

    private static void plays(Walk w) {
        // 2 is lighter than 3, but HEAVY: FORCE 14 and 8 against 10.
        String light = "ask(0, 0) one(0, 0, 6, 0, 0) one(0, 0, 6, 0, 0) one(1, 4, 0, 5, 9) one(1, 0, 0, 8, 0) ";
        w.says("A PLAY by rules (0: CALL; 1: the one of the least WEIGHT is called, of several the first by numbers) to "
            + "its end:", t -> t
            .upon(light).same("play(0, 0) = 0 play(0, 1) = 1 play(0, 2) = 3 play(1, 0) = 1 play(1, 1) = 1 play(1, 2) = 1")
            .upon(light + "tell(3, 1, 5) move(3, 0) ").same("play(1, 0) = 1 play(1, 2) = 1")
            .upon(ChoiceEdges.STRONG).same("play(0, 1) = 20 play(0, 2) = 3 play(1, 1) = 20")
            .upon(ChoiceEdges.STRONG + "run(3, 0, 0) ").same("play(0, 1) = 19 play(0, 2) = 3"));
        // 3 takes the one of GRIP 8 home, whom FORCE 7 can't be torn from then; of GRIP 3 it could.
        String taken = "ask(0, 0) one(0, 0, %d, 7, 0) one(0, 0, %d, 7, 0) one(0, 0, 9, 7, 0) one(1, 0, 5, 10, 0) "
            + "one(1, 0, 5, 10, 0) ";
        // STRENGTH 12 and 10; 3 runs at the second, is HELD by FORCE 10 and tears by 11.
        w.says("each runs AT, it is TORN if ODDS are 500,000 at least, and TAKES.", t -> t
            .upon(sides("6 6", "10 10") + "ask(1, 2) ").same("play(0, 0) = 1 play(0, 2) = 1")
            .upon(sides("6 6", "9 9") + "ask(1, 3) ").same("play(0, 0) = 0 play(0, 2) = 3")
            .upon(sides("8 6 6", "10 10") + "ask(3, 1) ").same("play(0, 2) = 4")
            .upon(sides("8 6 6", "11 11") + "ask(3, 1) ").same("play(0, 2) = 2")
            // STRENGTH 8 and 2: FORCE 5 runs at the second, FORCE 20 would at the first.
            .upon(sides("9 1 3", "5 20") + "ask(3, 1) ").same("play(0, 2) = 2 play(1, 2) = 2")
            .upon(String.format(taken, 3, 8)).same("play(0, 1) = 2 play(0, 2) = 1 play(0, 0) = 1")
            .upon(String.format(taken, 8, 3)).same("play(0, 1) = 2 play(0, 2) = 1 play(0, 0) = 1"));
    }

    private static void stands(Walk w) {
        // Of GRIPS 1, 5, 9: 9 belongs between; of 1, 5, 9, 3 none is above 6, by 1 9 5 3 first.
        w.says("STAND of a CHAIN (7 at most): of all orders of its PEOPLE that by which its least STRENGTH is greatest "
            + "(fewer than 2: as they are), of several the first (by rows of numbers).", t -> t
            .upon(sides("1 5 9", "0")).same("stand(0, NONE) = 8 stand(0, 0) = 0 stand(0, 1) = 2 stand(0, 2) = 1")
            .same("stand(1, NONE) = 0 stand(1, 0) = 3")
            .upon(sides("1 5 9", "0") + "move(0, 2) move(1, 1) ").same("stand(0, 0) = 0 stand(0, 1) = 2 stand(0, 2) = 1")
            .upon(sides("1 5 9 3", "0"))
            .same("stand(0, NONE) = 6 stand(0, 0) = 0 stand(0, 1) = 2 stand(0, 2) = 1 stand(0, 3) = 3")
            .due("stand(0, NONE) = 6 stand(1, NONE) = 0 stand(0, NONE) = 6")
            .upon(YardEdges.SIX).same("stand(1, NONE) = 10 stand(1, 0) = 4 stand(1, 1) = 3 stand(1, 2) = 5")
            .upon(YardEdges.crowd(7, 0) + "move(6, 0) ").same("stand(0, NONE) = 8 stand(0, 0) = 0 stand(0, 6) = 6")
            .upon(YardEdges.crowd(8, 0)).refused("stand(0, 0) = -6"));
    }

    private static void games(Walk w) {
        w.says("GAME of d runs (0 to 2), SPREAD as if it were 1:", t -> t.upon(sides("6 6", "14 8 14"))
            .same("game(0) = -1 game(1) = 1").refused("game(3) = -1002 game(-1) = -1002")
            .upon(sides("6 6", "14 8 14") + "ask(1, 10) ").same("game(0) = -1 game(1) = 1 first(1) = 3 game(2) = -1"));
        // 2 tears, 3 is HELD; then 0, who has no FORCE, is called and HELD.
        w.says("the CHAIN whose TURN it is calls so that what it has in the end more than the other (PEOPLE) is most,", t -> t
            .upon(sides("6 6", "14 8 14")).same("game(1) = 1 first(1) = 3 game(2) = -1 first(2) = 3"));
        // All that is left with 1 can be called to be HELD; without 1 FORCE 20 tears.
        String side = "ask(0, 0) one(0, 0, 0, 20, 0) one(0, 0, 0, 0, 0) one(0, 0, 20, 20, 0) one(1, 0, 0, 5, 0) "
            + "one(1, 0, 0, 5, 0) ";
        w.says("the runner's CHAIN chooses JOINT and side so that it is least;", t -> t
            .upon(sides("6 6 1", "8 8")).same("game(1) = -1")
            .upon(side).same("game(1) = -1 game(2) = -3")
            .upon(side + "move(1, 0) ").same("game(1) = -1 game(2) = -3"));
        w.says("that difference (it may be below 0);", t -> t.upon(sides("6 6", "14 14 14"))
            .same("game(0) = -1 game(1) = -3 game(2) = -3")
            .upon(sides("6 6", "14 14 14") + "ask(4, 1) ").same("game(0) = 1"));
        w.says("the one called first, of several the first by numbers.", t -> t
            .upon(sides("6 6", "14 14 14")).same("first(1) = 2 first(2) = 2")
            .upon(sides("6 6", "14 8 8") + "move(4, 0) ").same("first(1) = 3 first(2) = 3"));
    }

    private static void sistersAndSwaps(Walk w) {
        String five = "one(0, 3, 5, 5, 0) one(0, 0, 5, 5, 0) one(0, 3, 5, 5, 0) one(0, 1, 5, 5, 0) one(0, 3, 5, 5, 0) ";
        // Of 120 orders 2 times 6 have no two of three side by side; of 5,040 two are so in 2 times 720.
        w.says("TOGETHER: in how many orders of a CHAIN (7 at most) some two SISTERS stand side by side.", t -> t
            .upon(SIX).same("together(0) = 4 together(1) = 0")
            .upon(five).same("together(0) = 108 together(1) = 0")
            .upon("one(0, 3, 5, 5, 0) ".repeat(2) + YardEdges.crowd(5, 0)).same("together(0) = 1440")
            .upon("one(1, 3, 5, 5, 0) ".repeat(7)).same("together(1) = 5040")
            .upon("one(1, 3, 5, 5, 0) ".repeat(8)).refused("together(1) = -6"));
        w.says("SWAP of a CHAIN: of all pairs of PLACES side by side the one by whose change its least STRENGTH would be "
            + "greatest, of several the first; by how much more that is (it may be below 0).", t -> t
            .upon(sides("1 5 9 3", "0")).same("swap(0, 0) = 1 swap(0, 1) = 2")
            .upon(sides("1 9 5 3", "0")).same("swap(0, 0) = 0 swap(0, 1) = 0")
            .upon(sides("1 9 5", "0")).same("swap(0, 0) = 0 swap(0, 1) = -4")
            .upon(SIX).same("swap(1, 0) = 0 swap(1, 1) = 8"));
        w.says("COULD at a JOINT: who of the CHAIN that is called can tear it (ODDS above 0; bits);", t -> t
            .upon(sides("6 6 9", "7 8 11 10") + "ask(1, 4) ").same("could(0, 0) = 112 could(1, 0) = 32"));
        w.says("MUST: who does for sure.", t -> t.upon(sides("6 6 9", "7 8 11 10") + "ask(1, 4) ")
            .same("could(0, 1) = 32 could(1, 1) = 0"));
    }

    private static void books(Walk w) {
        w.says("A BOOK: a ROW of RUNS: each 1000 times the runner, 100 times the JOINT, and 0: HELD, 1: TORN, left, 2: "
            + "TORN, right:",
            t -> t.upon(SIX + "fill 0 2: 5100 ").due("booked(0, 1) = 1 line(0) = 10152 line(1) = 134")
            .upon(SIX + "fill 0 2: 3001 ").due("booked(0, 1) = 1 line(0) = 112 line(1) = 14530")
            .upon(SIX + "fill 0 2: 3002 ").due("booked(0, 1) = 1 line(0) = 102 line(1) = 14531"));
        w.says("WRONG: the first that can't be (also by its ODDS); NONE.", t -> t
            .upon(SIX + "fill 0 2: 5000 1000 ").same("judge(0, 2) = -1")
            .upon(SIX + "fill 0 2: 5000 3000 9 ").same("judge(0, 3) = 1")
            .upon(SIX + "fill 0 2: 3000 ").same("judge(0, 1) = 0")
            .upon(SIX + "fill 0 2: 5001 ").same("judge(0, 1) = 0")
            .upon(SIX + "fill 0 2: 5200 ").same("judge(0, 1) = 0")
            .upon(SIX + "fill 0 2: 5003 ").same("judge(0, 1) = 0"));
    }

    private static void inTruth(Walk w) {
        // SEED 1 draws 16838, then 38526: 2 and 2 below 4.
        w.says("IN TRUTH a RUN is TORN, if FORCE and a DRAW below SPREAD are above STRENGTH.", t -> t
            .upon(TapeEdges.wall(9, 4)).due("run(2, 0, 0) = 1").upon(TapeEdges.wall(8, 4)).due("run(2, 0, 0) = 0")
            .upon(TapeEdges.wall(9, 2)).due("run(2, 0, 0) = 0").upon(TapeEdges.wall(3, 10)).due("run(2, 0, 0) = 1"));
        w.says("A REST: all are n less TIRED (0 at least).", t -> t.upon(SIX + "tell(0, 2, 5) tell(4, 2, 2) ")
            .due("rest(3) = 5 oneOf(0, 3) = 2 oneOf(4, 3) = 0 status(7) = 2"));
        w.says("A DRAW below n: SEED (1 at first) becomes SEED times 1103515245, and 12345 (an int, wrapping);", t -> t.bare()
            .same("status(9) = 1")
            .upon(ChoiceEdges.STRONG).due("runs(1) = 0 status(9) = 1103527590 runs(1) = 0 status(9) = -1770082073"));
        w.says("its upper 16 bits, no sign, modulo n.", t -> t
            .upon(TapeEdges.wall(8, 7)).due("run(2, 0, 0) = 1").upon(TapeEdges.wall(7, 7)).due("run(2, 0, 0) = 0")
            .upon(TapeEdges.wall(5, 10) + "seed(1103527590) ").due("run(2, 0, 0) = 1")
            .upon(TapeEdges.wall(4, 10) + "seed(1103527590) ").due("run(2, 0, 0) = 0"));
    }

    private static void shelves(Walk w) {
        w.says("SHELVES 0 to 7 hold NOTHING (at first), a ROW, or one of the PEOPLE.", t -> t.bare()
            .same("holds(0) = -1 holds(7) = -1 status(10) = 0")
            .upon(SIX).due("row(0, 2, 3) = 1 show(7, 5) = 1 holds(0) = 2 holds(7) = 15 holds(3) = -1 status(10) = 2")
            .due("row(0, 2, 3) = 1 show(0, 1) = 1 holds(0) = 11 row(0, 1, 3) = 1 holds(0) = 1")
            .refused("row(8, 2, 3) = -2 row(-1, 2, 3) = -2 show(8, 0) = -2"));
        w.says("A ROW has a SORT (0 bytes, 1 shorts, 2 ints, 3 longs, 4 booleans) and 0 to 40 elements (0, or not so, at "
            + "first);", t -> t
            .due("row(0, 0, 0) = 1 holds(0) = 0 row(0, 4, 40) = 1 holds(0) = 4 element(0, 39) = 0 set(0, 39, 7) = 1 "
            + "element(0, 39) = 1 "
                + "row(0, 3, 40) = 1 element(0, 39) = 0")
            .refused("row(0, 5, 1) = -2 row(0, -1, 1) = -2 row(0, 0, 41) = -2 row(0, 0, -1) = -2"));
        w.says("what is put in keeps its lowest bits (of booleans: whether it is not 0);", t -> t
            .upon("fill 0 0: 511 fill 1 1: 98304 fill 2 2: 6442450944 fill 3 3: 6442450944 fill 4 4: 6442450944 ")
            .same("element(0, 0) = -1 element(1, 0) = -32768 element(2, 0) = -2147483648 element(3, 0) = 6442450944"));
        w.says("told they are numbers (1, 0).", t -> t.upon("fill 4 4: 6442450944 0 -7 ")
            .same("element(4, 0) = 1 element(4, 1) = 0 element(4, 2) = 1"));
    }

    private static void refusals(Walk w) {
        String shelved = SIX + "fill 0 2: 7 8 9 show(1, 4) ";
        w.says("REFUSALS (the call answers the number; nothing changes but how many there were;", t -> t.upon(shelved)
            .refused("tell(6, 0, 1) = -2 set(1, 0, 1) = -3 set(2, 0, 1) = -4 run(0, 0, 0) = -5")
            .due("status(12) = 0 status(15) = 0")
            .upon(shelved + "run(0, 0, 0) run(0, 0, 0) tell(6, 0, 1) ")
            .same("status(12) = 1 status(13) = 0 status(14) = 0 status(15) = 2 status(16) = 0"));
        w.says("the first that fits as each line has them):", t -> t.upon(shelved)
            .refused("run(0, 9, 0) = -2 run(0, 0, 0) = -5 set(8, 9, 1) = -2 set(1, 9, 1) = -3 set(2, 9, 1) = -4 "
            + "set(0, 9, 1) = -2")
            .upon(YardEdges.crowd(8, 0)).refused("one(0, 0, 21, 0, 0) = -2 one(0, 0, 20, 0, 0) = -6"));
        w.says("-2 BAD a number that may not be, nothing of that number.", t -> t.upon(shelved)
            .refused("ask(0, 31) = -2 oneOf(0, 8) = -2 oneOf(6, 0) = -2 strength(0, 2) = -2 row(8, 0, 0) = -2"));
        w.says("-3 OTHER: a SHELF that holds another thing than is wanted.", t -> t.upon(shelved)
            .refused("set(1, 0, 1) = -3 judge(1, 0) = -3 says(0, 0) = -3 order(0, 1) = -3"));
        w.says("-4 NOTHING: a SHELF that holds NOTHING.", t -> t.upon(shelved)
            .refused("set(2, 0, 1) = -4 judge(2, 0) = -4 says(2, 0) = -4 order(0, 2) = -4"));
        w.says("-5 STUCK: it can't be as things stand.", t -> t
            .refused("call() = -5 weakest(0) = -5 pair() = -5 first(1) = -5"));
        w.says("-6 FULL.", t -> t.upon(YardEdges.crowd(0, 8)).refused("one(0, 0, 5, 5, 0) = -6 best(1) = -6"));
        w.says("(Calls that tell what may be below 0 answer -1000 and the number.)", t -> t
            .refused("game(3) = -1002 game(0) = -1005 swap(2, 0) = -1002 swap(0, 0) = -1005"));
    }
}
