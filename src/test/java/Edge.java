import java.util.ArrayList;
import java.util.List;
import java.util.function.Consumer;
import java.util.function.Function;

/** One boundary or sentence of the document, with all that is held there. Every check is made on new objects. */
final class Edge {
    /** Puts by another state, so that a call that must leave alone what is kept is seen not to. */
    private static final String KEPT = "ask(0, 3) ask(3, 50) seed(5) image() ask(0, 9) ask(3, 20) seed(1) ";
    private static final List<Function<Told, List<Long>>> SEEN = List.of(
        Told::state, t -> t.shelves(0, 3), t -> t.shelves(4, 7), Told::behindYard, Told::behindBack);

    final List<String> wrong = new ArrayList<>();
    /** The numbers of the refusals that were held here. */
    final List<Integer> refusals = new ArrayList<>();
    int checks = 0;
    private String lead = "";
    private boolean isBare = false;

    static Edge held(Consumer<Edge> body) {
        Edge edge = new Edge();
        try {
            body.accept(edge);
        } catch (IllegalArgumentException | ArithmeticException e) {
            edge.wrong.add("the test itself is wrong: " + e.getMessage());
        }
        return edge;
    }

    /** Prints what was held here, and the sentence if that was wrong; whether all was right. */
    boolean tell(String name, String sentence) {
        if (wrong.isEmpty()) {
            System.out.println("  ok " + name + " (" + checks + ")");
            return true;
        }
        System.out.println("  WRONG " + name + ": \"" + sentence + "\"");
        for (String w : wrong) {
            System.out.println("    " + w);
        }
        return false;
    }

    /** The calls that lead to where the next checks are made. */
    Edge upon(String calls) {
        lead = calls;
        return this;
    }

    /** Nothing is kept ahead of the calls that lead here. */
    Edge bare() {
        isBare = true;
        return this;
    }

    /** The calls one after the other on one object: all answer what is due, and none is refused. */
    Edge due(String calls) {
        Told t = begin(lead);
        List<Long> before = t.refusals();
        t.make(calls);
        List<Long> behind = t.refusals();
        if (!before.equals(behind)) {
            t.wrong.add(calls + ": something was refused");
        }
        note(t);
        return this;
    }

    /** Each call by itself: it answers what is due, isn't refused, and changes nothing. */
    Edge same(String calls) {
        for (String step : Told.steps(calls)) {
            leavesAll(step, "");
            Told t = begin(lead);
            List<Long> before = t.refusals();
            t.make(step);
            if (!before.equals(t.refusals())) {
                t.wrong.add(step + ": it was refused");
            }
            note(t);
        }
        return this;
    }

    /** Each call by itself: it answers the refusal, is counted once as that, and changes nothing else. */
    Edge refused(String calls) {
        for (String step : Told.steps(calls)) {
            countsOnce(step);
            // A yard that is refused still empties THE TAPE.
            leavesAll(step, step.startsWith("yard()") ? "wipe()" : "");
        }
        return this;
    }

    /** THE TAPE with this text is no YARD: its FAULT. */
    Edge fault(String text, int place) {
        String was = lead;
        lead = was + " feed '" + text + "'";
        refused("yard() = " + (-20 - place));
        lead = was;
        return this;
    }

    /** What is held without calls. */
    Edge that(boolean isSo, String otherwise) {
        checks++;
        if (!isSo) {
            wrong.add(otherwise);
        }
        return this;
    }

    private Told begin(String calls) {
        return new Told().make(isBare ? calls : KEPT + calls);
    }

    private static int numberOf(String step) {
        int answer = Integer.parseInt(step.substring(step.lastIndexOf("= ") + 2));
        if (answer <= -1000) {
            return answer + 1000;
        }
        return answer <= -20 ? -2 : answer;
    }

    private void countsOnce(String step) {
        int number = numberOf(step);
        refusals.add(number);
        Told t = begin(lead);
        List<Long> counts = t.refusals();
        counts.set(-2 - number, counts.get(-2 - number) + 1);
        t.make(step);
        List<Long> behind = t.refusals();
        if (!counts.equals(behind)) {
            t.wrong.add(step + ": the refusals are " + behind + ", due are " + counts);
        }
        note(t);
    }

    private void leavesAll(String step, String instead) {
        boolean isOfTape = (lead + step).matches("(?s).*(feed|read|yard\\(|wipe|status\\(8).*");
        String calls = isOfTape ? lead : lead + " feed 'tired 0 5;yards 4'";
        for (Function<Told, List<Long>> seen : SEEN) {
            List<Long> with = seen.apply(begin(calls).make(step));
            List<Long> without = seen.apply(begin(calls).make(instead));
            checks++;
            if (!with.equals(without)) {
                wrong.add(step + ": it changed something, behind " + lead);
            }
        }
    }

    private void note(Told t) {
        checks++;
        for (String w : t.wrong) {
            wrong.add(w + ", behind " + lead);
        }
    }
}
