import java.util.ArrayDeque;
import java.util.ArrayList;
import java.util.Collections;
import java.util.Comparator;
import java.util.Deque;
import java.util.List;
import java.util.NoSuchElementException;
import java.util.TreeSet;
import java.util.regex.Matcher;
import java.util.regex.Pattern;

/** Long runs of calls, each answer compared with that of a plain model of the document. */
public final class ModelTest {
    private static final int RUNS = 400;
    private static final int CALLS = 512;
    private static final int ENOUGH_WRONG = 5;
    private static final String[] NOTATIONS = {"r:5 h3:12 r:1", "h1:1 h2:2 h1:1 h2:2", "r:200", "h9:101 r:100", "", "r:0", "h0:1", "r:1 ",
        "h5:33 h5:33", "h7:1234", "r:20 h4:60 h1:9 r:3 h9:99", "h2:4 r:4 h2:4 r:4 h2:4 r:4", "h8:3;r:1", "h"};
    private static final String[] WORDS = {"pass", "rest", "remove", "mute", "reverse", "copy", "modulate", "repeat", "paste", "mark", "unmark"};

    private final Draw draw;
    private final RailTimeline x = new RailTimeline();
    private final Model model = new Model();
    private final int run;
    private int calls;

    private ModelTest(int run) {
        this.run = run;
        this.draw = new Draw(run);
    }

    public static void main(String[] args) {
        for (int run = 0; run < RUNS; run++) {
            new ModelTest(run).play();
        }
        Check.end();
    }

    private void play() {
        int wrong = 0;
        while (calls < CALLS - 70 && wrong < ENOUGH_WRONG) {
            if (!step()) {
                wrong++;
            }
        }
    }

    private boolean step() {
        int kind = draw.below(46);
        if (kind < 24) {
            return edit(kind);
        }
        if (kind < 28) {
            return input(draw.below(4));
        }
        if (kind < 31) {
            return history(draw.below(6));
        }
        return question(draw.below(37));
    }

    private boolean same(String call, Check.Call real, Check.Call due) {
        calls++;
        String want = Check.answer(due);
        String got = Check.answer(real);
        if (!want.equals(got)) {
            Check.wrong("run " + run + ", call " + calls + ": " + call + " answered " + got + ", due is " + want);
        }
        return want.equals(got);
    }

    private int time() {
        return draw.below(20) == 0 ? draw.strange() : draw.below(model.levels.size() + 1);
    }

    /** Mostly a valid interval, and mostly a short one. */
    private int[] interval() {
        int size = model.levels.size();
        if (draw.below(15) == 0) {
            return new int[] {draw.strange(), draw.strange()};
        }
        int from = draw.below(size + 1);
        int longest = draw.below(4) == 0 ? size - from : Math.min(size - from, 6);
        return new int[] {from, from + draw.below(longest + 1)};
    }

    private boolean edit(int kind) {
        int[] i = interval();
        int t = time();
        switch (kind) {
            case 0: case 1: case 2: case 3: case 4: case 5:
                int start = draw.below(10) == 0 ? draw.strange() : draw.below(Math.min(200, model.levels.size() + 5));
                int length = draw.below(12) == 0 ? draw.strange() : 1 + draw.below(8);
                int level = draw.below(12) == 0 ? draw.strange() : 1 + draw.below(9);
                return same("pass " + start + " " + length + " " + level, () -> x.pass(start, length, level),
                        () -> model.change(m -> m.pass(start, length, level)));
            case 6: case 7:
                int ticks = draw.below(12) == 0 ? draw.strange() : 1 + draw.below(5);
                return same("insertRest " + t + " " + ticks, () -> x.insertRest(t, ticks), () -> model.change(m -> m.insertRest(t, ticks)));
            case 8: case 9:
                return same("remove " + i[0] + " " + i[1], () -> x.remove(i[0], i[1]), () -> model.change(m -> m.remove(i[0], i[1])));
            case 10:
                return same("mute " + i[0] + " " + i[1], () -> x.mute(i[0], i[1]), () -> model.change(m -> m.mute(i[0], i[1])));
            case 11: case 12:
                int shift = draw.below(20) - 10;
                return same("modulate " + i[0] + " " + i[1] + " " + shift, () -> x.modulate(i[0], i[1], shift),
                        () -> model.change(m -> m.modulate(i[0], i[1], shift)));
            case 13: case 14:
                return same("reverse " + i[0] + " " + i[1], () -> x.reverse(i[0], i[1]),
                        () -> model.change(m -> m.reverse(i[0], i[1])) == 1);
            case 15: case 16:
                int times = draw.below(12);
                return same("repeat " + i[0] + " " + i[1] + " " + times, () -> x.repeat(i[0], i[1], times),
                        () -> model.change(m -> m.repeat(i[0], i[1], times)));
            case 17: case 18:
                return same("copy " + i[0] + " " + i[1], () -> x.copy(i[0], i[1]), () -> model.change(m -> m.copy(i[0], i[1])));
            case 19: case 20:
                return same("paste " + t, () -> x.paste(t), () -> model.change(m -> m.paste(t)));
            case 21: case 22:
                return same("addMarker " + t, () -> x.addMarker(t), () -> model.change(m -> m.addMarker(t)) == 1);
            default:
                return same("removeMarker " + t, () -> x.removeMarker(t), () -> model.change(m -> m.removeMarker(t)) == 1);
        }
    }

    private boolean input(int kind) {
        if (kind == 0) {
            char sign = (char) draw.below(140);
            return same("type " + (int) sign, () -> x.type(sign), () -> model.type(sign));
        }
        String text = kind == 1 ? NOTATIONS[draw.below(NOTATIONS.length)] : script();
        String typed = draw.below(4) == 0 ? spoiled(text) : text;
        boolean isRight = true;
        for (char sign : typed.toCharArray()) {
            isRight &= same("type " + sign, () -> x.type(sign), () -> model.type(sign));
        }
        boolean isLoad = kind == 1 ^ draw.below(20) == 0;
        if (isLoad) {
            isRight &= same("load", x::load, model::load);
        } else {
            isRight &= same("runScript", x::runScript, model::runScript);
        }
        isRight &= same("errorPosition", x::errorPosition, () -> model.latest(model.errorPosition));
        isRight &= same("failedCommand", x::failedCommand, () -> model.latest(model.failedCommand));
        return isRight;
    }

    private String script() {
        StringBuilder script = new StringBuilder();
        int commands = 1 + draw.below(5);
        for (int c = 0; c < commands; c++) {
            String word = WORDS[draw.below(WORDS.length)];
            int[] i = interval();
            int from = Math.floorMod(i[0], 1000);
            int to = Math.floorMod(i[1], 1000);
            String command = word + " " + from;
            if (word.equals("pass")) {
                command += " " + (1 + draw.below(6)) + " " + (1 + draw.below(9));
            } else if (word.equals("rest")) {
                command += " " + (1 + draw.below(6));
            } else if (word.equals("modulate")) {
                command += " " + to + (draw.below(2) == 0 ? " +" : " -") + draw.below(10);
            } else if (word.equals("repeat")) {
                command += " " + to + " " + draw.below(4);
            } else if (!word.equals("paste") && !word.endsWith("mark")) {
                command += " " + to;
            }
            script.append(c == 0 ? "" : ";").append(command);
        }
        return script.toString();
    }

    private String spoiled(String text) {
        int at = draw.below(text.length() + 1);
        String signs = " ;:+-0123456789abcdehmnoprstuv";
        char sign = signs.charAt(draw.below(signs.length()));
        switch (draw.below(3)) {
            case 0:
                return text.substring(0, at);
            case 1:
                return text.substring(0, at) + sign + text.substring(at);
            default:
                return text.substring(0, at) + sign + text.substring(Math.min(at + 1, text.length()));
        }
    }

    private boolean history(int kind) {
        if (kind < 4) {
            return same("undo", x::undo, model::undo);
        }
        return kind == 4 ? same("save", x::save, model::save) : same("restore", x::restore, model::restore);
    }

    private boolean question(int kind) {
        int[] i = interval();
        int t = time();
        int n = draw.below(10) == 0 ? draw.strange() : draw.below(8);
        int k = draw.below(10) == 0 ? draw.strange() : draw.below(8);
        switch (kind) {
            case 0: return same("duration", x::duration, () -> model.levels.size());
            case 1: return same("levelAt " + t, () -> x.levelAt(t), () -> model.levelAt(t));
            case 2: return same("runCount", x::runCount, () -> model.runs().size());
            case 3: return same("runStart " + n, () -> x.runStart(n), () -> model.run(n)[0]);
            case 4: return same("runLength " + n, () -> x.runLength(n), () -> model.run(n)[1]);
            case 5: return same("runLevel " + n, () -> x.runLevel(n), () -> model.run(n)[2]);
            case 6: return same("restTicks", x::restTicks, () -> model.count(0));
            case 7: return same("humTicks", x::humTicks, () -> model.levels.size() - model.count(0));
            case 8: return same("ticksAtLevel " + n, () -> x.ticksAtLevel(n), () -> model.ticksAtLevel(n));
            case 9: return same("loudness", x::loudness, () -> model.sum(0, model.levels.size()));
            case 10: return same("loudnessByLevels", x::loudnessByLevels, () -> model.sum(0, model.levels.size()));
            case 11: return same("loudnessIn " + i[0] + " " + i[1], () -> x.loudnessIn(i[0], i[1]), () -> model.sum(i[0], i[1]));
            case 12: return same("loudnessInByPrefixes " + i[0] + " " + i[1], () -> x.loudnessInByPrefixes(i[0], i[1]),
                    () -> model.sum(i[0], i[1]));
            case 13: return same("isSilent " + i[0] + " " + i[1], () -> x.isSilent(i[0], i[1]), () -> model.sum(i[0], i[1]) == 0);
            case 14: return same("peakLevel", x::peakLevel, () -> model.levels.stream().max(Integer::compare).orElse(0));
            case 15: return same("restCount", x::restCount, () -> model.rests().size());
            case 16: return same("restStartByLength " + n, () -> x.restStartByLength(n), () -> model.restStart(n));
            case 17: return same("nextChange " + t, () -> x.nextChange(t), () -> model.nextChange(t));
            case 18: return same("findRun " + n + " " + k, () -> x.findRun(n, k), () -> model.findRun(n, k));
            case 19: return same("quietestWindow " + n, () -> x.quietestWindow(n), () -> model.quietest(n));
            case 20: return same("quietestWindowByTrial " + n, () -> x.quietestWindowByTrial(n), () -> model.quietest(n));
            case 21: return same("period", x::period, model::period);
            case 22: return same("periodByTrial", x::periodByTrial, model::period);
            case 23: return same("markerCount", x::markerCount, () -> model.markers.size());
            case 24: return same("markerTime " + n, () -> x.markerTime(n), () -> model.markerTime(n));
            case 25: return same("barLength " + n, () -> x.barLength(n), () -> model.bar(n).length());
            case 26: return same("barLoudness " + n, () -> x.barLoudness(n), () -> model.barSum(n));
            case 27: return same("loudestBar", x::loudestBar, model::loudestBar);
            case 28: return same("areBarsEqual " + n + " " + k, () -> x.areBarsEqual(n, k), () -> model.bar(n).equals(model.bar(k)));
            case 29: return same("clipboardLength", x::clipboardLength, () -> model.clipboard.size());
            case 30: return same("trainCount", x::trainCount, () -> model.trains);
            case 31: return same("meanLevel", x::meanLevel, model::meanLevel);
            case 32: return same("restShare", x::restShare, model::restShare);
            case 33: return same("isConsistent", x::isConsistent, () -> true);
            case 34: return same("renderNotation", x::renderNotation, () -> model.render(model.notation())) && outputs();
            case 35: return same("renderBars", x::renderBars, () -> model.render(model.bars())) && outputs();
            default: return same("outputAt " + n, () -> x.outputAt(n), () -> model.outputAt(n));
        }
    }

    private boolean outputs() {
        int last = model.output.length();
        int inside = draw.below(last + 1);
        return same("outputAt " + inside, () -> x.outputAt(inside), () -> model.outputAt(inside))
                && same("outputAt " + last, () -> x.outputAt(last), () -> model.outputAt(last))
                && same("outputAt " + (last - 1), () -> x.outputAt(last - 1), () -> model.outputAt(last - 1));
    }

    /** Numbers that look drawn but are the same in every run of the test. */
    private static final class Draw {
        private long seed;

        Draw(int run) {
            seed = run * 7919L + 17;
        }

        int below(int bound) {
            seed = seed * 6364136223846793005L + 1442695040888963407L;
            return (int) Math.floorMod(seed >>> 33, (long) bound);
        }

        int strange() {
            int[] strange = {-1, 0, 1, 9, 10, 50, 51, 199, 200, 201, Integer.MAX_VALUE, Integer.MIN_VALUE};
            return strange[below(strange.length)];
        }
    }

    private interface Edit {
        int on(Model model);
    }

    /** The document, told with lists and texts. */
    private static final class Model {
        private static final Pattern NOTATION =
                Pattern.compile("((r|h[1-9]):[1-9][0-9]?[0-9]?( (r|h[1-9]):[1-9][0-9]?[0-9]?)*)?");
        private static final String N = "[0-9][0-9]?[0-9]?";
        private static final String COMMAND = "(pass N N N|rest N N|(remove |mute |reverse |copy )N N|modulate N N [+-]N|repeat N N N"
                + "|paste N|mark N|unmark N)";
        private static final Pattern SCRIPT = Pattern.compile((COMMAND + "(;" + COMMAND + ")*").replace("N", N));

        private List<Integer> levels = new ArrayList<>();
        private TreeSet<Integer> markers = new TreeSet<>();
        private List<Integer> clipboard = new ArrayList<>();
        private int trains;
        private final Deque<Model> past = new ArrayDeque<>();
        private Model saved;
        private String input = "";
        private String output = "";
        private int errorPosition = -1;
        private int failedCommand = -1;

        Model copyOfState() {
            Model copy = new Model();
            copy.become(this);
            return copy;
        }

        void become(Model other) {
            levels = new ArrayList<>(other.levels);
            markers = new TreeSet<>(other.markers);
            clipboard = new ArrayList<>(other.clipboard);
            trains = other.trains;
        }

        int change(Edit edit) {
            Model before = copyOfState();
            int answer = edit.on(this);
            keep(before);
            return answer;
        }

        void keep(Model before) {
            past.addLast(before);
            if (past.size() > 8) {
                past.removeFirst();
            }
        }

        private static void index(boolean fine) {
            if (!fine) {
                throw new IndexOutOfBoundsException();
            }
        }

        private static void argument(boolean fine) {
            if (!fine) {
                throw new IllegalArgumentException();
            }
        }

        private static void state(boolean fine) {
            if (!fine) {
                throw new IllegalStateException();
            }
        }

        private static void exists(boolean fine) {
            if (!fine) {
                throw new NoSuchElementException();
            }
        }

        private void interval(int from, int to) {
            index(0 <= from && from <= to && to <= levels.size());
        }

        int pass(int time, int length, int level) {
            argument(time >= 0 && time <= 199 && length >= 1 && length <= 50 && level >= 1 && level <= 9);
            state(time + length <= 200);
            while (levels.size() < time + length) {
                levels.add(0);
            }
            int raised = 0;
            for (int t = time; t < time + length; t++) {
                raised += levels.get(t) < level ? 1 : 0;
                levels.set(t, Math.max(level, levels.get(t)));
            }
            trains++;
            return raised;
        }

        private int insert(int time, List<Integer> inserted) {
            state(levels.size() + inserted.size() <= 200);
            levels.addAll(time, inserted);
            TreeSet<Integer> moved = new TreeSet<>();
            for (int marker : markers) {
                moved.add(marker > time ? marker + inserted.size() : marker);
            }
            markers = moved;
            return levels.size();
        }

        int insertRest(int time, int ticks) {
            index(time >= 0 && time <= levels.size());
            argument(ticks >= 1 && ticks <= 50);
            return insert(time, Collections.nCopies(ticks, 0));
        }

        int remove(int from, int to) {
            interval(from, to);
            levels.subList(from, to).clear();
            TreeSet<Integer> left = new TreeSet<>();
            for (int marker : markers) {
                if (marker <= from) {
                    left.add(marker);
                } else if (marker >= to) {
                    left.add(marker - (to - from));
                }
            }
            markers = left;
            return levels.size();
        }

        int mute(int from, int to) {
            interval(from, to);
            int sounding = 0;
            for (int t = from; t < to; t++) {
                sounding += levels.set(t, 0) > 0 ? 1 : 0;
            }
            return sounding;
        }

        int modulate(int from, int to, int shift) {
            interval(from, to);
            argument(shift != 0 && Math.abs(shift) <= 8);
            int changed = 0;
            for (int t = from; t < to; t++) {
                int level = levels.get(t);
                if (level > 0) {
                    levels.set(t, Math.min(9, Math.max(1, level + shift)));
                    changed += levels.get(t) != level ? 1 : 0;
                }
            }
            return changed;
        }

        int reverse(int from, int to) {
            interval(from, to);
            List<Integer> before = new ArrayList<>(levels);
            Collections.reverse(levels.subList(from, to));
            return before.equals(levels) ? 0 : 1;
        }

        int repeat(int from, int to, int times) {
            interval(from, to);
            argument(times >= 1 && times <= 9);
            List<Integer> copies = new ArrayList<>();
            for (int n = 0; n < times; n++) {
                copies.addAll(levels.subList(from, to));
            }
            return insert(to, copies);
        }

        int copy(int from, int to) {
            interval(from, to);
            clipboard = new ArrayList<>(levels.subList(from, to));
            return clipboard.size();
        }

        int paste(int time) {
            index(time >= 0 && time <= levels.size());
            exists(!clipboard.isEmpty());
            return insert(time, clipboard);
        }

        int addMarker(int time) {
            index(time >= 0 && time <= levels.size());
            state(markers.contains(time) || markers.size() < 6);
            return markers.add(time) ? 1 : 0;
        }

        int removeMarker(int time) {
            return markers.remove(time) ? 1 : 0;
        }

        int levelAt(int time) {
            index(time >= 0 && time < levels.size());
            return levels.get(time);
        }

        List<int[]> runs() {
            List<int[]> runs = new ArrayList<>();
            Matcher matcher = Pattern.compile("(.)\\1*").matcher(text());
            while (matcher.find()) {
                runs.add(new int[] {matcher.start(), matcher.end() - matcher.start(), matcher.group().charAt(0) - '0'});
            }
            return runs;
        }

        private String text() {
            StringBuilder text = new StringBuilder();
            levels.forEach(text::append);
            return text.toString();
        }

        int[] run(int run) {
            List<int[]> runs = runs();
            index(run >= 0 && run < runs.size());
            return runs.get(run);
        }

        int count(int level) {
            return Collections.frequency(levels, level);
        }

        int ticksAtLevel(int level) {
            argument(level >= 0 && level <= 9);
            return count(level);
        }

        int sum(int from, int to) {
            interval(from, to);
            return levels.subList(from, to).stream().mapToInt(Integer::intValue).sum();
        }

        List<int[]> rests() {
            List<int[]> rests = runs();
            rests.removeIf(run -> run[2] != 0);
            rests.sort(Comparator.comparingInt(run -> -run[1]));
            return rests;
        }

        int restStart(int rank) {
            exists(rank >= 0 && rank < rests().size());
            return rests().get(rank)[0];
        }

        int nextChange(int time) {
            index(time >= 0 && time < levels.size());
            return runs().stream().mapToInt(run -> run[0]).filter(start -> start > time).findFirst().orElseThrow();
        }

        int findRun(int level, int length) {
            argument(level >= 0 && level <= 9 && length >= 1);
            List<int[]> runs = runs();
            for (int[] run : runs) {
                if (run[2] == level && run[1] >= length) {
                    return runs.indexOf(run);
                }
            }
            throw new NoSuchElementException();
        }

        int quietest(int length) {
            argument(length >= 1);
            exists(length <= levels.size());
            int best = 0;
            for (int start = 0; start + length <= levels.size(); start++) {
                best = sum(start, start + length) < sum(best, best + length) ? start : best;
            }
            return best;
        }

        int period() {
            exists(!levels.isEmpty());
            String text = text();
            int period = 1;
            while (!text.startsWith(text.substring(period))) {
                period++;
            }
            return period;
        }

        int markerTime(int marker) {
            index(marker >= 0 && marker < markers.size());
            return new ArrayList<>(markers).get(marker);
        }

        String bar(int bar) {
            String[] bars = bars().split("\\|", -1);
            index(bar >= 0 && bar < bars.length);
            return bars[bar];
        }

        int barSum(int bar) {
            return bar(bar).chars().map(sign -> sign - '0').sum();
        }

        int loudestBar() {
            int best = 0;
            for (int bar = 1; bar <= markers.size(); bar++) {
                int difference = barSum(bar) - barSum(best);
                if (difference > 0 || difference == 0 && bar(bar).length() > bar(best).length()) {
                    best = bar;
                }
            }
            return best;
        }

        double meanLevel() {
            if (levels.isEmpty()) {
                throw new ArithmeticException();
            }
            return (double) sum(0, levels.size()) / levels.size();
        }

        float restShare() {
            if (levels.isEmpty()) {
                throw new ArithmeticException();
            }
            return (float) count(0) / levels.size();
        }

        String notation() {
            List<String> parts = new ArrayList<>();
            for (int[] run : runs()) {
                parts.add((run[2] == 0 ? "r" : "h" + run[2]) + ":" + run[1]);
            }
            return String.join(" ", parts);
        }

        String bars() {
            StringBuilder bars = new StringBuilder(text());
            for (int marker : markers.descendingSet()) {
                bars.insert(marker, '|');
            }
            return bars.toString();
        }

        int render(String text) {
            output = text;
            return text.length();
        }

        char outputAt(int index) {
            index(index >= 0 && index < output.length());
            return output.charAt(index);
        }

        int type(char sign) {
            argument(sign >= 32 && sign <= 126);
            state(input.length() < 60);
            input += sign;
            return input.length();
        }

        /** Takes the input away, and refuses it at the first sign with which no input of the form goes on. */
        private String take(Pattern form) {
            String text = input;
            input = "";
            if (form.matcher(text).matches()) {
                return text;
            }
            int position = 0;
            while (position < text.length() && canGoOn(form, text.substring(0, position + 1))) {
                position++;
            }
            errorPosition = position;
            throw new IllegalArgumentException();
        }

        private static boolean canGoOn(Pattern form, String start) {
            Matcher matcher = form.matcher(start);
            return matcher.matches() || matcher.hitEnd();
        }

        int load() {
            String text = take(NOTATION);
            List<Integer> loaded = new ArrayList<>();
            for (String run : text.isEmpty() ? new String[0] : text.split(" ")) {
                String[] parts = run.split(":");
                int level = run.charAt(0) == 'r' ? 0 : Integer.parseInt(parts[0].substring(1));
                loaded.addAll(Collections.nCopies(Integer.parseInt(parts[1]), level));
            }
            state(loaded.size() <= 200);
            keep(copyOfState());
            levels = loaded;
            markers.clear();
            return loaded.size();
        }

        int runScript() {
            String[] commands = take(SCRIPT).split(";");
            Model before = copyOfState();
            for (int c = 0; c < commands.length; c++) {
                try {
                    command(commands[c]);
                } catch (RuntimeException e) {
                    become(before);
                    failedCommand = c;
                    throw new IllegalStateException();
                }
            }
            keep(before);
            return commands.length;
        }

        private void command(String command) {
            String[] w = command.split(" ");
            int[] n = new int[4];
            for (int i = 1; i < w.length; i++) {
                n[i] = Integer.parseInt(w[i]);
            }
            switch (w[0]) {
                case "pass" -> pass(n[1], n[2], n[3]);
                case "rest" -> insertRest(n[1], n[2]);
                case "remove" -> remove(n[1], n[2]);
                case "mute" -> mute(n[1], n[2]);
                case "reverse" -> reverse(n[1], n[2]);
                case "copy" -> copy(n[1], n[2]);
                case "modulate" -> modulate(n[1], n[2], n[3]);
                case "repeat" -> repeat(n[1], n[2], n[3]);
                case "paste" -> paste(n[1]);
                case "mark" -> addMarker(n[1]);
                default -> removeMarker(n[1]);
            }
        }

        int latest(int number) {
            exists(number >= 0);
            return number;
        }

        int undo() {
            state(!past.isEmpty());
            become(past.removeLast());
            return past.size();
        }

        int save() {
            saved = copyOfState();
            return levels.size();
        }

        int restore() {
            state(saved != null);
            become(saved);
            past.clear();
            return levels.size();
        }
    }
}
