import java.util.ArrayList;
import java.util.List;
import java.util.function.Function;

/** The test of one sentence of the document: runs of calls on new objects. */
record Edge(String section, String quote, String place, List<Step> steps) {
    private static final int SHOWN = 25;
    /** After a run of this length too few calls may be left to ask whether a question changed anything. */
    private static final int LONG_RUN = 50;
    private static final List<Function<Caller, String>> PROBES = List.of(Edge::state, Edge::outputText, Edge::clipboard, Edge::history,
        Edge::snapshot);

    void check() {
        Caller caller = new Caller();
        List<Step> before = new ArrayList<>();
        for (Step step : steps) {
            if (step.isMaker()) {
                caller = new Caller();
                before.clear();
            }
            String answer = step.on(caller);
            if (!step.isFine(answer)) {
                Check.wrong(place + ": " + step.line() + " answered " + answer + ", due is " + step.due());
            } else if (step.isRefused() || step.isWithoutEffect() && before.size() < LONG_RUN) {
                checkNothingChanged(before, step);
            }
            if (!step.isRefused() || step.mayMovePositions()) {
                before.add(step);
            }
        }
    }

    /** Asks two new objects about all that can be asked, one with and one without the call. */
    private void checkNothingChanged(List<Step> before, Step step) {
        List<Function<Caller, String>> probes = new ArrayList<>(PROBES);
        if (!step.mayMovePositions()) {
            probes.add(Edge::positions);
        }
        if (!step.isReadingWhatWasTyped()) {
            probes.add(Edge::input);
        }
        for (Function<Caller, String> probe : probes) {
            Caller without = played(before);
            Caller with = played(before);
            step.on(with);
            Check.equal(probe.apply(without), probe.apply(with), place + ": what " + step.line() + " must leave as it is");
        }
    }

    private static Caller played(List<Step> steps) {
        Caller caller = new Caller();
        steps.forEach(step -> step.on(caller));
        return caller;
    }

    // ---- what can be asked of an object; all but the first two change it ----

    private static String positions(Caller caller) {
        return caller.call("errorPosition") + " " + caller.call("failedCommand");
    }

    private static String outputText(Caller caller) {
        return caller.output(4 * SHOWN);
    }

    private static String state(Caller caller) {
        return caller.call("duration") + " " + caller.markers() + " " + caller.call("clipboardLength") + " " + caller.call("trainCount") + " "
                + caller.call("renderNotation") + " " + caller.output(SHOWN);
    }

    private static String clipboard(Caller caller) {
        int duration = Integer.parseInt(caller.call("duration"));
        return caller.call("remove", 0, duration) + " " + caller.call("paste", 0) + " " + state(caller);
    }

    private static String input(Caller caller) {
        return caller.call("type", '~') + " " + caller.call("runScript") + " " + caller.call("errorPosition");
    }

    private static String history(Caller caller) {
        StringBuilder history = new StringBuilder();
        String left = caller.call("undo");
        while (!left.startsWith("!")) {
            history.append(left).append(" ").append(state(caller)).append("; ");
            left = caller.call("undo");
        }
        return history.append(left).toString();
    }

    private static String snapshot(Caller caller) {
        return caller.call("restore") + " " + state(caller) + " " + clipboard(caller);
    }
}
