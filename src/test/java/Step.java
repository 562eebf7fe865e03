import java.util.ArrayList;
import java.util.Collections;
import java.util.List;
import java.util.Set;

/** One call of a run, with what is due: an answer, an exception, or anything but an exception. */
record Step(String line, String name, List<String> arguments, String due) {
    private static final String ANY = "any answer";
    private static final Set<String> MAKERS = Set.of("new", "line");
    private static final Set<String> EDITS = Set.of("pass", "insertRest", "remove", "mute", "modulate", "reverse", "repeat", "copy", "paste",
        "addMarker", "removeMarker");
    private static final Set<String> MISREADINGS = Set.of("errorOfLoad", "errorOfScript", "failureOf");
    private static final Set<String> OTHER_CHANGES = Set.of("renderNotation", "renderBars", "notation", "bars", "type", "load", "runScript",
        "undo", "save", "restore");

    /**
     * Reads a line such as "insertRest {-1,5,max} 1 ! IndexOutOfBounds", "3* undo = {2,1,0}" or "load "r:1" = 1". A set stands for one
     * call for each of its elements, and a set behind "=" has the answers of these calls.
     */
    static List<Step> read(String line) {
        int split = splitAt(line);
        List<String> words = words(split < 0 ? line : line.substring(0, split));
        String rest = split < 0 ? "" : line.substring(split + 1).trim();
        int times = 1;
        if (words.get(0).matches("\\d+\\*")) {
            times = Integer.parseInt(words.remove(0).replace("*", ""));
        }
        List<List<String>> calls = new ArrayList<>();
        for (int time = 0; time < times; time++) {
            calls.addAll(product(words));
        }
        List<String> due = due(split < 0 ? ' ' : line.charAt(split), rest, calls.size());
        List<Step> steps = new ArrayList<>();
        for (int call = 0; call < calls.size(); call++) {
            List<String> one = calls.get(call);
            steps.add(new Step(String.join(" ", one), one.get(0), one.subList(1, one.size()), due.get(call)));
        }
        return steps;
    }

    /** Where "=" or "!" stands alone outside a text in quotes, or -1. */
    private static int splitAt(String line) {
        boolean isQuoted = false;
        for (int index = 0; index < line.length(); index++) {
            char sign = line.charAt(index);
            isQuoted ^= sign == '"';
            if (!isQuoted && (sign == '=' || sign == '!') && (index + 1 == line.length() || line.charAt(index + 1) == ' ')) {
                return index;
            }
        }
        return -1;
    }

    private static List<String> words(String call) {
        List<String> words = new ArrayList<>();
        boolean isQuoted = false;
        StringBuilder word = new StringBuilder();
        for (char sign : (call.trim() + " ").toCharArray()) {
            isQuoted ^= sign == '"';
            if (sign == ' ' && !isQuoted) {
                words.add(word.toString());
                word.setLength(0);
            } else {
                word.append(sign);
            }
        }
        return words;
    }

    private static List<List<String>> product(List<String> words) {
        List<List<String>> calls = List.of(List.of());
        for (String word : words) {
            List<List<String>> longer = new ArrayList<>();
            for (List<String> call : calls) {
                for (String element : elements(word)) {
                    List<String> one = new ArrayList<>(call);
                    one.add(element);
                    longer.add(one);
                }
            }
            calls = longer;
        }
        return calls;
    }

    /** The elements of a set such as {-1,3..5,max}, whose ranges may fall too, or the word alone. */
    private static List<String> elements(String word) {
        if (!word.startsWith("{")) {
            return List.of(word);
        }
        List<String> elements = new ArrayList<>();
        for (String part : word.substring(1, word.length() - 1).split(",")) {
            String[] ends = part.split("\\.\\.");
            if (ends.length == 1) {
                elements.add(part);
            } else {
                int from = Integer.parseInt(ends[0]);
                int to = Integer.parseInt(ends[1]);
                for (int number = from; number != to; number += Integer.signum(to - from)) {
                    elements.add(String.valueOf(number));
                }
                elements.add(ends[1]);
            }
        }
        return elements;
    }

    private static List<String> due(char sign, String rest, int calls) {
        List<String> given = sign == ' ' ? List.of(ANY) : sign == '!' ? List.of("!" + rest) : elements(rest);
        if (given.size() == 1) {
            return Collections.nCopies(calls, given.get(0));
        }
        if (given.size() != calls) {
            throw new IllegalArgumentException(given.size() + " answers for " + calls + " calls: " + rest);
        }
        given.replaceAll(answer -> answer.equals("\" \"") ? " " : answer);
        return given;
    }

    boolean isMaker() {
        return MAKERS.contains(name);
    }

    boolean isRefused() {
        return due.startsWith("!");
    }

    /** A refused call and a question leave everything as it was. */
    boolean isWithoutEffect() {
        return isRefused() || !isMaker() && !EDITS.contains(name) && !OTHER_CHANGES.contains(name);
    }

    /** A refused input may leave its error position, or the index of its failed command, behind. */
    boolean mayMovePositions() {
        return MISREADINGS.contains(name) || isReading();
    }

    /** Whether the characters to be read were typed by earlier calls. */
    boolean isReadingWhatWasTyped() {
        return isReading() && arguments.isEmpty();
    }

    private boolean isReading() {
        return name.equals("load") || name.equals("runScript");
    }

    boolean isFine(String answer) {
        return due.equals(ANY) ? !answer.startsWith("!") || answer.equals("!") : answer.equals(due);
    }

    /** Makes the call; what it answers is a text. */
    String on(Caller caller) {
        switch (name) {
            case "new":
                return "";
            case "line":
                caller.makeLine(arguments.isEmpty() ? "" : arguments.get(0));
                return "";
            case "bars":
                return caller.rendered("renderBars");
            case "notation":
                return caller.rendered("renderNotation");
            case "markers":
                return caller.markers();
            default:
                return isOfText() ? onText(caller) : caller.call(name, arguments);
        }
    }

    private boolean isOfText() {
        return arguments.size() == 1 && arguments.get(0).startsWith("\"");
    }

    private String onText(Caller caller) {
        String text = arguments.get(0).substring(1, arguments.get(0).length() - 1);
        return switch (name) {
            case "type" -> caller.typeText(text);
            case "errorOfLoad" -> caller.afterRefusal("load", text, "!IllegalArgument", "errorPosition");
            case "errorOfScript" -> caller.afterRefusal("runScript", text, "!IllegalArgument", "errorPosition");
            case "failureOf" -> caller.afterRefusal("runScript", text, "!IllegalState", "failedCommand");
            default -> caller.read(name, text);
        };
    }
}
