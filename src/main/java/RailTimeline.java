import java.util.NoSuchElementException;

/** A run-length encoded timeline of sound levels beside a railway line. */
public final class RailTimeline {
    private static final int MOST_TICKS = 200;
    private static final int MOST_TICKS_AT_ONCE = 50;
    private static final int MOST_COPIES = 9;
    private static final int LOUDEST_LEVEL = 9;
    private static final int GREATEST_SHIFT = 8;
    private static final int MOST_MARKERS = 6;
    private static final int MOST_UNDOS = 8;
    private static final int LONGEST_CHECKED_WINDOW = 9;
    private static final int LONGEST_INPUT = 60;
    private static final int MOST_DIGITS = 3;
    private static final int FIRST_TYPED_SIGN = 32;
    private static final int LAST_TYPED_SIGN = 126;
    /** The shortest command, "mark 0", and its semicolon take 7 characters. */
    private static final int MOST_COMMANDS = (LONGEST_INPUT + 1) / 7;
    /** The longest notation has 200 hums of one tick, "h1:1", and 199 spaces. */
    private static final int LONGEST_OUTPUT = 5 * MOST_TICKS;
    private static final int NONE = -1;
    private static final Verb[] VERBS = Verb.values();

    private final State state = new State();
    private final State before = new State();
    private final State snapshot = new State();
    private final History history = new History();
    private final Runs runs = new Runs();
    private final int[] failure = new int[MOST_TICKS];
    private final Input input = new Input();
    private final Levels loaded = new Levels();
    private final Script script = new Script();
    private final Output output = new Output();
    private boolean hasSnapshot;
    private int latestErrorPosition = NONE;
    private int latestFailedCommand = NONE;

    public RailTimeline() {
    }

    // ---- editing ----

    public int pass(int time, int length, int level) throws IllegalArgumentException, IllegalStateException {
        return change(Verb.PASS, time, length, level);
    }

    public int insertRest(int time, int ticks)
            throws IndexOutOfBoundsException, IllegalArgumentException, IllegalStateException {
        return change(Verb.REST, time, ticks, 0);
    }

    public int remove(int from, int to) throws IndexOutOfBoundsException {
        return change(Verb.REMOVE, from, to, 0);
    }

    public int mute(int from, int to) throws IndexOutOfBoundsException {
        return change(Verb.MUTE, from, to, 0);
    }

    public int modulate(int from, int to, int shift) throws IndexOutOfBoundsException, IllegalArgumentException {
        return change(Verb.MODULATE, from, to, shift);
    }

    public boolean reverse(int from, int to) throws IndexOutOfBoundsException {
        return change(Verb.REVERSE, from, to, 0) != 0;
    }

    public int repeat(int from, int to, int times)
            throws IndexOutOfBoundsException, IllegalArgumentException, IllegalStateException {
        return change(Verb.REPEAT, from, to, times);
    }

    public int copy(int from, int to) throws IndexOutOfBoundsException {
        return change(Verb.COPY, from, to, 0);
    }

    public int paste(int time) throws IndexOutOfBoundsException, NoSuchElementException, IllegalStateException {
        return change(Verb.PASTE, time, 0, 0);
    }

    public boolean addMarker(int time) throws IndexOutOfBoundsException, IllegalStateException {
        return change(Verb.MARK, time, 0, 0) != 0;
    }

    public boolean removeMarker(int time) {
        return change(Verb.UNMARK, time, 0, 0) != 0;
    }

    private int change(Verb verb, int first, int second, int third) {
        raise(state.faultOf(verb, first, second, third));
        history.push(state);
        return state.carryOut(verb, first, second, third);
    }

    private static void raise(Fault fault) {
        if (fault == Fault.INDEX) {
            throw new IndexOutOfBoundsException("no such time, tick, interval or index");
        }
        if (fault == Fault.ARGUMENT) {
            throw new IllegalArgumentException("an argument is outside its range");
        }
        if (fault == Fault.STATE) {
            throw new IllegalStateException("not possible in this state");
        }
        if (fault == Fault.MISSING) {
            throw new NoSuchElementException("there is none");
        }
    }

    private static void raiseUnless(boolean fine, Fault fault) {
        if (!fine) {
            raise(fault);
        }
    }

    // ---- ticks and runs ----

    public int duration() {
        return state.timeline.size();
    }

    public int levelAt(int time) throws IndexOutOfBoundsException {
        raiseUnless(state.timeline.hasTick(time), Fault.INDEX);
        return state.timeline.at(time);
    }

    public int runCount() {
        return currentRuns().count();
    }

    public int runStart(int run) throws IndexOutOfBoundsException {
        return runsWith(run).startOf(run);
    }

    public int runLength(int run) throws IndexOutOfBoundsException {
        return runsWith(run).lengthOf(run);
    }

    public int runLevel(int run) throws IndexOutOfBoundsException {
        return runsWith(run).levelOf(run);
    }

    private Runs currentRuns() {
        runs.readFrom(state.timeline);
        return runs;
    }

    private Runs runsWith(int run) {
        raiseUnless(currentRuns().has(run), Fault.INDEX);
        return runs;
    }

    // ---- statistics ----

    public int restTicks() {
        return currentRuns().ticksOfRests();
    }

    public int humTicks() {
        return currentRuns().ticksOfHums();
    }

    public int ticksAtLevel(int level) throws IllegalArgumentException {
        raiseUnless(isLevel(level), Fault.ARGUMENT);
        return state.timeline.countOf(level);
    }

    private static boolean isLevel(int level) {
        return level >= 0 && level <= LOUDEST_LEVEL;
    }

    public long loudness() {
        return currentRuns().sumOfLevels();
    }

    public long loudnessByLevels() {
        long sum = 0;
        for (int level = 0; level <= LOUDEST_LEVEL; level++) {
            sum += (long) level * state.timeline.countOf(level);
        }
        return sum;
    }

    public int loudnessIn(int from, int to) throws IndexOutOfBoundsException {
        raise(state.intervalFault(from, to));
        return state.timeline.sum(from, to);
    }

    public int loudnessInByPrefixes(int from, int to) throws IndexOutOfBoundsException {
        raise(state.intervalFault(from, to));
        return state.timeline.sum(0, to) - state.timeline.sum(0, from);
    }

    public boolean isSilent(int from, int to) throws IndexOutOfBoundsException {
        raise(state.intervalFault(from, to));
        return state.timeline.soundingTicks(from, to) == 0;
    }

    public int peakLevel() {
        int peak = 0;
        for (int time = 0; time < state.timeline.size(); time++) {
            peak = Math.max(peak, state.timeline.at(time));
        }
        return peak;
    }

    public int restCount() {
        return currentRuns().countOfRests();
    }

    public int restStartByLength(int rank) throws NoSuchElementException {
        int run = currentRuns().restOfRank(rank);
        raiseUnless(run != NONE, Fault.MISSING);
        return runs.startOf(run);
    }

    public int nextChange(int time) throws IndexOutOfBoundsException, NoSuchElementException {
        raiseUnless(state.timeline.hasTick(time), Fault.INDEX);
        int run = currentRuns().firstAfter(time);
        raiseUnless(run != NONE, Fault.MISSING);
        return runs.startOf(run);
    }

    public int findRun(int level, int minimumLength) throws IllegalArgumentException, NoSuchElementException {
        raiseUnless(isLevel(level) && minimumLength >= 1, Fault.ARGUMENT);
        int run = currentRuns().firstWith(level, minimumLength);
        raiseUnless(run != NONE, Fault.MISSING);
        return run;
    }

    public double meanLevel() throws ArithmeticException {
        double ticks = (double) tickCountToDivideBy();
        return (double) currentRuns().sumOfLevels() / ticks;
    }

    public float restShare() throws ArithmeticException {
        float ticks = (float) tickCountToDivideBy();
        return (float) currentRuns().ticksOfRests() / ticks;
    }

    private int tickCountToDivideBy() {
        int ticks = state.timeline.size();
        if (ticks < 1) {
            throw new ArithmeticException("the timeline is empty");
        }
        return ticks;
    }

    // ---- windows and periods ----

    public int quietestWindow(int length) throws IllegalArgumentException, NoSuchElementException {
        raise(windowFault(length));
        return windowByMoving(length);
    }

    public int quietestWindowByTrial(int length) throws IllegalArgumentException, NoSuchElementException {
        raise(windowFault(length));
        return windowByTrial(length);
    }

    private Fault windowFault(int length) {
        if (length < 1) {
            return Fault.ARGUMENT;
        }
        return length > state.timeline.size() ? Fault.MISSING : Fault.NO_FAULT;
    }

    private int windowByMoving(int length) {
        Levels timeline = state.timeline;
        int sum = timeline.sum(0, length);
        int lowest = sum;
        int quietest = 0;
        for (int start = 1; start <= timeline.size() - length; start++) {
            sum += timeline.at(start + length - 1) - timeline.at(start - 1);
            if (sum < lowest) {
                lowest = sum;
                quietest = start;
            }
        }
        return quietest;
    }

    private int windowByTrial(int length) {
        Levels timeline = state.timeline;
        int lowest = timeline.sum(0, length);
        int quietest = 0;
        for (int start = 1; start <= timeline.size() - length; start++) {
            int sum = timeline.sum(start, start + length);
            if (sum < lowest) {
                lowest = sum;
                quietest = start;
            }
        }
        return quietest;
    }

    public int period() throws NoSuchElementException {
        raiseUnless(state.timeline.size() > 0, Fault.MISSING);
        return periodByFailureFunction();
    }

    public int periodByTrial() throws NoSuchElementException {
        raiseUnless(state.timeline.size() > 0, Fault.MISSING);
        return periodByTrying();
    }

    private int periodByFailureFunction() {
        int size = state.timeline.size();
        setFailure(0, 0);
        int matched = 0;
        for (int time = 1; time < size; time++) {
            matched = matchedAt(time, matched);
            setFailure(time, matched);
        }
        return size - matched;
    }

    private int matchedAt(int time, int matchedBefore) {
        Levels timeline = state.timeline;
        int matched = matchedBefore;
        while (matched > 0 && timeline.at(time) != timeline.at(matched)) {
            // A border is shorter than what it borders: min shows that the loop ends.
            matched = Math.min(failureAt(matched - 1), matched - 1);
        }
        return timeline.at(time) == timeline.at(matched) ? matched + 1 : 0;
    }

    private int failureAt(int index) {
        return index >= 0 && index < failure.length ? failure[index] : 0;
    }

    private void setFailure(int index, int length) {
        if (index >= 0 && index < failure.length) {
            failure[index] = length;
        }
    }

    private int periodByTrying() {
        int size = state.timeline.size();
        for (int shift = 1; shift < size; shift++) {
            if (state.timeline.isSame(0, shift, size - shift)) {
                return shift;
            }
        }
        return size;
    }

    // ---- markers, bars, clipboard, trains ----

    public int markerCount() {
        return state.markers.count();
    }

    public int markerTime(int marker) throws IndexOutOfBoundsException {
        raiseUnless(marker >= 0 && marker < state.markers.count(), Fault.INDEX);
        return state.markers.at(marker);
    }

    public int barLength(int bar) throws IndexOutOfBoundsException {
        raiseUnless(state.hasBar(bar), Fault.INDEX);
        return state.lengthOfBar(bar);
    }

    public int barLoudness(int bar) throws IndexOutOfBoundsException {
        raiseUnless(state.hasBar(bar), Fault.INDEX);
        return state.sumOfBar(bar);
    }

    public int loudestBar() {
        int loudest = 0;
        for (int bar = 1; bar <= state.markers.count(); bar++) {
            if (isLouderOrLonger(bar, loudest)) {
                loudest = bar;
            }
        }
        return loudest;
    }

    private boolean isLouderOrLonger(int bar, int other) {
        int sum = state.sumOfBar(bar);
        int otherSum = state.sumOfBar(other);
        return sum > otherSum || sum == otherSum && state.lengthOfBar(bar) > state.lengthOfBar(other);
    }

    public boolean areBarsEqual(int first, int second) throws IndexOutOfBoundsException {
        raiseUnless(state.hasBar(first) && state.hasBar(second), Fault.INDEX);
        int length = state.lengthOfBar(first);
        return length == state.lengthOfBar(second)
                && state.timeline.isSame(state.startOfBar(first), state.startOfBar(second), length);
    }

    public int clipboardLength() {
        return state.clipboard.size();
    }

    public int trainCount() {
        return state.trains;
    }

    // ---- the check of the state ----

    public boolean isConsistent() {
        return doTicksAddUp() && loudness() == loudnessByLevels() && doWindowsAgree() && doPeriodsAgree()
                && currentRuns().areMaximal();
    }

    private boolean doTicksAddUp() {
        return state.timeline.size() == restTicks() + humTicks();
    }

    private boolean doWindowsAgree() {
        for (int length = 1; length <= LONGEST_CHECKED_WINDOW && length <= state.timeline.size(); length++) {
            if (windowByMoving(length) != windowByTrial(length)) {
                return false;
            }
        }
        return true;
    }

    private boolean doPeriodsAgree() {
        return state.timeline.size() == 0 || periodByFailureFunction() == periodByTrying();
    }

    // ---- output ----

    public int renderNotation() {
        output.clear();
        Runs current = currentRuns();
        for (int run = 0; run < current.count(); run++) {
            if (run > 0) {
                output.append(' ');
            }
            renderRun(current.levelOf(run), current.lengthOf(run));
        }
        return output.length();
    }

    private void renderRun(int level, int length) {
        if (level == 0) {
            output.append('r');
        } else {
            output.append('h');
            output.appendNumber(level);
        }
        output.append(':');
        output.appendNumber(length);
    }

    public int renderBars() {
        output.clear();
        // The time after the last tick counts too: a marker may stand there.
        for (int time = 0; time <= state.timeline.size(); time++) {
            if (state.markers.indexAt(time) != NONE) {
                output.append('|');
            }
            if (state.timeline.hasTick(time)) {
                output.appendNumber(state.timeline.at(time));
            }
        }
        return output.length();
    }

    public char outputAt(int index) throws IndexOutOfBoundsException {
        raiseUnless(index >= 0 && index < output.length(), Fault.INDEX);
        return output.at(index);
    }

    // ---- input ----

    public int type(char character) throws IllegalArgumentException, IllegalStateException {
        raiseUnless(character >= FIRST_TYPED_SIGN && character <= LAST_TYPED_SIGN, Fault.ARGUMENT);
        raiseUnless(input.length() < LONGEST_INPUT, Fault.STATE);
        input.append(character);
        return input.length();
    }

    public int load() throws IllegalArgumentException, IllegalStateException {
        int ticks = input.readNotation(loaded);
        finishReading();
        raiseUnless(ticks <= MOST_TICKS, Fault.STATE);
        history.push(state);
        state.replaceTimeline(loaded);
        return state.timeline.size();
    }

    public int runScript() throws IllegalArgumentException, IllegalStateException {
        input.readScript(script);
        finishReading();
        before.become(state);
        int failed = firstFailure();
        if (failed != NONE) {
            state.become(before);
            latestFailedCommand = failed;
            raise(Fault.STATE);
        }
        history.push(before);
        return script.count();
    }

    /** Empties the input, and refuses it if it did not have the form it was read in. */
    private void finishReading() {
        boolean broken = input.isBroken();
        int position = input.position();
        input.clear();
        if (broken) {
            latestErrorPosition = position;
            raise(Fault.ARGUMENT);
        }
    }

    /** Carries out the commands up to the first that fails, whose index it returns, or NONE. */
    private int firstFailure() {
        for (int index = 0; index < script.count(); index++) {
            Command command = script.at(index);
            if (command == null || faultOf(command) != Fault.NO_FAULT) {
                return index;
            }
            state.carryOut(command.verb, command.first, command.second, command.third);
        }
        return NONE;
    }

    private Fault faultOf(Command command) {
        return state.faultOf(command.verb, command.first, command.second, command.third);
    }

    public int errorPosition() throws NoSuchElementException {
        raiseUnless(latestErrorPosition != NONE, Fault.MISSING);
        return latestErrorPosition;
    }

    public int failedCommand() throws NoSuchElementException {
        raiseUnless(latestFailedCommand != NONE, Fault.MISSING);
        return latestFailedCommand;
    }

    // ---- undo and snapshot ----

    public int undo() throws IllegalStateException {
        raiseUnless(history.count() > 0, Fault.STATE);
        history.pop(state);
        return history.count();
    }

    public int save() {
        snapshot.become(state);
        hasSnapshot = true;
        return state.timeline.size();
    }

    public int restore() throws IllegalStateException {
        raiseUnless(hasSnapshot, Fault.STATE);
        state.become(snapshot);
        history.clear();
        return state.timeline.size();
    }

    /** Why a call is refused. */
    private enum Fault {
        NO_FAULT, INDEX, ARGUMENT, STATE, MISSING
    }

    /** The editing calls, and how a script writes them. */
    private enum Verb {
        PASS("pass ", 3, false),
        REST("rest ", 2, false),
        REMOVE("remove ", 2, false),
        MUTE("mute ", 2, false),
        REVERSE("reverse ", 2, false),
        COPY("copy ", 2, false),
        MODULATE("modulate ", 3, true),
        REPEAT("repeat ", 3, false),
        PASTE("paste ", 1, false),
        MARK("mark ", 1, false),
        UNMARK("unmark ", 1, false);

        private final String word;
        private final int numbers;
        private final boolean isThirdSigned;

        Verb(String word, int numbers, boolean isThirdSigned) {
            this.word = word;
            this.numbers = numbers;
            this.isThirdSigned = isThirdSigned;
        }
    }

    /** A sequence of at most 200 levels; an access outside its row reads 0 and writes nothing. */
    private static final class Levels {
        private final int[] row = new int[MOST_TICKS];
        private int size;

        int size() {
            return size;
        }

        boolean hasTick(int time) {
            return time >= 0 && time < size;
        }

        boolean hasInterval(int from, int to) {
            return from >= 0 && from <= to && to <= size;
        }

        int at(int time) {
            return time >= 0 && time < row.length ? row[time] : 0;
        }

        void put(int time, int level) {
            if (time >= 0 && time < row.length) {
                row[time] = level;
            }
        }

        void append(int level) {
            if (size >= 0 && size < row.length) {
                row[size] = level;
                size++;
            }
        }

        void clear() {
            size = 0;
        }

        void become(Levels other) {
            takeInterval(other, 0, other.size);
        }

        void takeInterval(Levels other, int from, int to) {
            clear();
            for (int time = from; time < to; time++) {
                append(other.at(time));
            }
        }

        /** Inserts silent ticks; the caller has seen that there is room for them. */
        void open(int time, int ticks) {
            for (int moved = size - 1; moved >= time; moved--) {
                put(moved + ticks, at(moved));
            }
            for (int added = time; added < time + ticks; added++) {
                put(added, 0);
            }
            size += ticks;
        }

        void close(int from, int to) {
            for (int moved = to; moved < size; moved++) {
                put(moved - (to - from), at(moved));
            }
            size -= to - from;
        }

        void fill(int from, int to, int level) {
            for (int time = from; time < to; time++) {
                put(time, level);
            }
        }

        int sum(int from, int to) {
            int sum = 0;
            for (int time = from; time < to; time++) {
                sum += at(time);
            }
            return sum;
        }

        int soundingTicks(int from, int to) {
            int ticks = 0;
            for (int time = from; time < to; time++) {
                if (at(time) != 0) {
                    ticks++;
                }
            }
            return ticks;
        }

        int countOf(int level) {
            int ticks = 0;
            for (int time = 0; time < size; time++) {
                if (at(time) == level) {
                    ticks++;
                }
            }
            return ticks;
        }

        boolean isSame(int from, int otherFrom, int length) {
            for (int offset = 0; offset < length; offset++) {
                if (at(from + offset) != at(otherFrom + offset)) {
                    return false;
                }
            }
            return true;
        }
    }

    /** The times of the markers, in ascending order. */
    private static final class Markers {
        private final int[] times = new int[MOST_MARKERS];
        private int count;

        int count() {
            return count;
        }

        boolean isFull() {
            return count >= times.length;
        }

        int at(int index) {
            return index >= 0 && index < times.length ? times[index] : 0;
        }

        private void put(int index, int time) {
            if (index >= 0 && index < times.length) {
                times[index] = time;
            }
        }

        private void append(int time) {
            if (!isFull()) {
                put(count, time);
                count++;
            }
        }

        int indexAt(int time) {
            for (int index = 0; index < count; index++) {
                if (at(index) == time) {
                    return index;
                }
            }
            return NONE;
        }

        void add(int time) {
            append(time);
            for (int index = count - 1; index > 0 && at(index - 1) > time; index--) {
                put(index, at(index - 1));
                put(index - 1, time);
            }
        }

        void delete(int deleted) {
            for (int index = deleted; index < count - 1; index++) {
                put(index, at(index + 1));
            }
            count--;
        }

        void clear() {
            count = 0;
        }

        void become(Markers other) {
            clear();
            for (int index = 0; index < other.count; index++) {
                append(other.at(index));
            }
        }

        void makeRoom(int time, int ticks) {
            for (int index = 0; index < count; index++) {
                if (at(index) > time) {
                    put(index, at(index) + ticks);
                }
            }
        }

        void close(int from, int to) {
            int oldCount = count;
            clear();
            for (int index = 0; index < oldCount; index++) {
                int time = at(index);
                int newTime = time < to ? time : time - (to - from);
                boolean isInside = time > from && time < to;
                // A marker that comes to stand on another one is deleted.
                if (!isInside && indexAt(newTime) == NONE) {
                    append(newTime);
                }
            }
        }
    }

    /** All that undo and the snapshot cover, with the editing calls on it. */
    private static final class State {
        private final Levels timeline = new Levels();
        private final Markers markers = new Markers();
        private final Levels clipboard = new Levels();
        private int trains;

        void become(State other) {
            timeline.become(other.timeline);
            markers.become(other.markers);
            clipboard.become(other.clipboard);
            trains = other.trains;
        }

        void replaceTimeline(Levels levels) {
            timeline.become(levels);
            markers.clear();
        }

        // -- what a call is refused for --

        Fault faultOf(Verb verb, int first, int second, int third) {
            switch (verb) {
                case PASS:
                    return passFault(first, second, third);
                case REST:
                    return restFault(first, second);
                case MODULATE:
                    return modulateFault(first, second, third);
                case REPEAT:
                    return repeatFault(first, second, third);
                case PASTE:
                    return pasteFault(first);
                case MARK:
                    return markFault(first);
                case UNMARK:
                    return Fault.NO_FAULT;
                default:
                    return intervalFault(first, second);
            }
        }

        private static Fault passFault(int time, int length, int level) {
            boolean isTimeFine = time >= 0 && time < MOST_TICKS;
            boolean isLengthFine = length >= 1 && length <= MOST_TICKS_AT_ONCE;
            boolean isLevelFine = level >= 1 && level <= LOUDEST_LEVEL;
            if (!isTimeFine || !isLengthFine || !isLevelFine) {
                return Fault.ARGUMENT;
            }
            return time + length > MOST_TICKS ? Fault.STATE : Fault.NO_FAULT;
        }

        private Fault restFault(int time, int ticks) {
            if (!isInsertionTime(time)) {
                return Fault.INDEX;
            }
            if (ticks < 1 || ticks > MOST_TICKS_AT_ONCE) {
                return Fault.ARGUMENT;
            }
            return roomFault(ticks);
        }

        private Fault modulateFault(int from, int to, int shift) {
            if (!timeline.hasInterval(from, to)) {
                return Fault.INDEX;
            }
            boolean isShiftFine = shift != 0 && shift >= -GREATEST_SHIFT && shift <= GREATEST_SHIFT;
            return isShiftFine ? Fault.NO_FAULT : Fault.ARGUMENT;
        }

        private Fault repeatFault(int from, int to, int times) {
            if (!timeline.hasInterval(from, to)) {
                return Fault.INDEX;
            }
            if (times < 1 || times > MOST_COPIES) {
                return Fault.ARGUMENT;
            }
            return roomFault((to - from) * times);
        }

        private Fault pasteFault(int time) {
            if (!isInsertionTime(time)) {
                return Fault.INDEX;
            }
            if (clipboard.size() == 0) {
                return Fault.MISSING;
            }
            return roomFault(clipboard.size());
        }

        private Fault markFault(int time) {
            if (!isInsertionTime(time)) {
                return Fault.INDEX;
            }
            boolean isNew = markers.indexAt(time) == NONE;
            return isNew && markers.isFull() ? Fault.STATE : Fault.NO_FAULT;
        }

        Fault intervalFault(int from, int to) {
            return timeline.hasInterval(from, to) ? Fault.NO_FAULT : Fault.INDEX;
        }

        private Fault roomFault(int ticks) {
            return timeline.size() + ticks > MOST_TICKS ? Fault.STATE : Fault.NO_FAULT;
        }

        private boolean isInsertionTime(int time) {
            return time >= 0 && time <= timeline.size();
        }

        // -- what a call does, once it is not refused; true is 1 and false 0 --

        int carryOut(Verb verb, int first, int second, int third) {
            switch (verb) {
                case PASS:
                    return letTrainPass(first, second, third);
                case REST:
                    return openTicks(first, second);
                case REMOVE:
                    return cutOut(first, second);
                case MUTE:
                    return silence(first, second);
                case REVERSE:
                    return turnRound(first, second);
                case COPY:
                    return fillClipboard(first, second);
                case MODULATE:
                    return shiftLevels(first, second, third);
                case REPEAT:
                    return insertCopies(first, second, third);
                case PASTE:
                    return insertClipboard(first);
                case MARK:
                    return mark(first);
                case UNMARK:
                    return unmark(first);
                default:
                    return 0;
            }
        }

        private int letTrainPass(int time, int length, int level) {
            int end = time + length;
            for (int added = timeline.size(); added < end; added++) {
                timeline.append(0);
            }
            int raised = 0;
            for (int tick = time; tick < end; tick++) {
                if (timeline.at(tick) < level) {
                    timeline.put(tick, level);
                    raised++;
                }
            }
            trains++;
            return raised;
        }

        private int openTicks(int time, int ticks) {
            timeline.open(time, ticks);
            markers.makeRoom(time, ticks);
            return timeline.size();
        }

        private int cutOut(int from, int to) {
            timeline.close(from, to);
            markers.close(from, to);
            return timeline.size();
        }

        private int silence(int from, int to) {
            int sounded = timeline.soundingTicks(from, to);
            timeline.fill(from, to, 0);
            return sounded;
        }

        private int turnRound(int from, int to) {
            boolean isDifferent = false;
            int left = from;
            for (int right = to - 1; right > left; right--) {
                int level = timeline.at(left);
                isDifferent = isDifferent || level != timeline.at(right);
                timeline.put(left, timeline.at(right));
                timeline.put(right, level);
                left++;
            }
            return isDifferent ? 1 : 0;
        }

        private int fillClipboard(int from, int to) {
            clipboard.takeInterval(timeline, from, to);
            return clipboard.size();
        }

        private int shiftLevels(int from, int to, int shift) {
            int changed = 0;
            for (int time = from; time < to; time++) {
                int level = timeline.at(time);
                int shifted = level == 0 ? 0 : Math.max(1, Math.min(LOUDEST_LEVEL, level + shift));
                if (shifted != level) {
                    timeline.put(time, shifted);
                    changed++;
                }
            }
            return changed;
        }

        private int insertCopies(int from, int to, int times) {
            int length = to - from;
            openTicks(to, length * times);
            for (int time = to; time < to + length * times; time++) {
                timeline.put(time, timeline.at(time - length));
            }
            return timeline.size();
        }

        private int insertClipboard(int time) {
            openTicks(time, clipboard.size());
            for (int offset = 0; offset < clipboard.size(); offset++) {
                timeline.put(time + offset, clipboard.at(offset));
            }
            return timeline.size();
        }

        private int mark(int time) {
            if (markers.indexAt(time) != NONE) {
                return 0;
            }
            markers.add(time);
            return 1;
        }

        private int unmark(int time) {
            int index = markers.indexAt(time);
            if (index == NONE) {
                return 0;
            }
            markers.delete(index);
            return 1;
        }

        // -- bars --

        boolean hasBar(int bar) {
            return bar >= 0 && bar <= markers.count();
        }

        int startOfBar(int bar) {
            return bar == 0 ? 0 : markers.at(bar - 1);
        }

        private int endOfBar(int bar) {
            return bar < markers.count() ? markers.at(bar) : timeline.size();
        }

        int lengthOfBar(int bar) {
            return endOfBar(bar) - startOfBar(bar);
        }

        int sumOfBar(int bar) {
            return timeline.sum(startOfBar(bar), endOfBar(bar));
        }
    }

    /** The states before the latest changes, in a ring whose oldest slot is used again. */
    private static final class History {
        private final State[] ring = new State[MOST_UNDOS];
        private int next;
        private int count;

        History() {
            for (int slot = 0; slot < ring.length; slot++) {
                ring[slot] = new State();
            }
        }

        int count() {
            return count;
        }

        void clear() {
            count = 0;
        }

        void push(State state) {
            State slot = slotAt(next);
            if (slot != null) {
                slot.become(state);
            }
            next = (next + 1) % MOST_UNDOS;
            count = Math.min(count + 1, MOST_UNDOS);
        }

        void pop(State state) {
            next = (next + MOST_UNDOS - 1) % MOST_UNDOS;
            count--;
            State slot = slotAt(next);
            if (slot != null) {
                state.become(slot);
            }
        }

        private State slotAt(int index) {
            return index >= 0 && index < ring.length ? ring[index] : null;
        }
    }

    /** The runs of a timeline, found anew before each use. */
    private static final class Runs {
        private final int[] starts = new int[MOST_TICKS];
        private final int[] lengths = new int[MOST_TICKS];
        private final int[] levels = new int[MOST_TICKS];
        private int count;

        void readFrom(Levels timeline) {
            count = 0;
            for (int time = 0; time < timeline.size(); time++) {
                if (time == 0 || timeline.at(time) != timeline.at(time - 1)) {
                    begin(time, timeline.at(time));
                } else {
                    lengthen(count - 1);
                }
            }
        }

        private void begin(int time, int level) {
            if (count >= 0 && count < starts.length && count < lengths.length && count < levels.length) {
                starts[count] = time;
                lengths[count] = 1;
                levels[count] = level;
                count++;
            }
        }

        private void lengthen(int run) {
            if (run >= 0 && run < lengths.length) {
                lengths[run]++;
            }
        }

        int count() {
            return count;
        }

        boolean has(int run) {
            return run >= 0 && run < count;
        }

        int startOf(int run) {
            return run >= 0 && run < starts.length ? starts[run] : 0;
        }

        int lengthOf(int run) {
            return run >= 0 && run < lengths.length ? lengths[run] : 0;
        }

        int levelOf(int run) {
            return run >= 0 && run < levels.length ? levels[run] : 0;
        }

        private boolean isRest(int run) {
            return levelOf(run) == 0;
        }

        int ticksOfRests() {
            int ticks = 0;
            for (int run = 0; run < count; run++) {
                ticks += isRest(run) ? lengthOf(run) : 0;
            }
            return ticks;
        }

        int ticksOfHums() {
            int ticks = 0;
            for (int run = 0; run < count; run++) {
                ticks += isRest(run) ? 0 : lengthOf(run);
            }
            return ticks;
        }

        int countOfRests() {
            int rests = 0;
            for (int run = 0; run < count; run++) {
                rests += isRest(run) ? 1 : 0;
            }
            return rests;
        }

        long sumOfLevels() {
            long sum = 0;
            for (int run = 0; run < count; run++) {
                sum += (long) levelOf(run) * lengthOf(run);
            }
            return sum;
        }

        int restOfRank(int rank) {
            for (int run = 0; run < count; run++) {
                if (isRest(run) && restsBefore(run) == rank) {
                    return run;
                }
            }
            return NONE;
        }

        private int restsBefore(int rest) {
            int rests = 0;
            for (int run = 0; run < count; run++) {
                boolean isLonger = lengthOf(run) > lengthOf(rest);
                boolean isEarlierAndAsLong = lengthOf(run) == lengthOf(rest) && run < rest;
                if (isRest(run) && (isLonger || isEarlierAndAsLong)) {
                    rests++;
                }
            }
            return rests;
        }

        int firstAfter(int time) {
            for (int run = 0; run < count; run++) {
                if (startOf(run) > time) {
                    return run;
                }
            }
            return NONE;
        }

        int firstWith(int level, int minimumLength) {
            for (int run = 0; run < count; run++) {
                if (levelOf(run) == level && lengthOf(run) >= minimumLength) {
                    return run;
                }
            }
            return NONE;
        }

        boolean areMaximal() {
            for (int run = 1; run < count; run++) {
                if (levelOf(run) == levelOf(run - 1)) {
                    return false;
                }
            }
            return true;
        }
    }

    /** One call that a script writes. */
    private static final class Command {
        private Verb verb = Verb.PASS;
        private int first;
        private int second;
        private int third;
    }

    /** The commands of the latest script. */
    private static final class Script {
        private final Command[] commands = new Command[MOST_COMMANDS];
        private int count;

        Script() {
            for (int index = 0; index < commands.length; index++) {
                commands[index] = new Command();
            }
        }

        int count() {
            return count;
        }

        void clear() {
            count = 0;
        }

        Command at(int index) {
            return index >= 0 && index < commands.length ? commands[index] : null;
        }

        void append(Verb verb, int first, int second, int third) {
            Command command = at(count);
            if (command != null) {
                command.verb = verb;
                command.first = first;
                command.second = second;
                command.third = third;
                count++;
            }
        }
    }

    /** The input buffer. Once a sign does not fit while it is read, its position stays there. */
    private static final class Input {
        private final char[] text = new char[LONGEST_INPUT];
        private int length;
        private int position;
        private boolean broken;

        int length() {
            return length;
        }

        int position() {
            return position;
        }

        boolean isBroken() {
            return broken;
        }

        void append(char sign) {
            if (length >= 0 && length < text.length) {
                text[length] = sign;
                length++;
            }
        }

        void clear() {
            length = 0;
        }

        /** Returns the ticks that the notation describes; levels gets as many of them as it holds. */
        int readNotation(Levels levels) {
            startReading();
            levels.clear();
            if (length == 0) {
                return 0;
            }
            int ticks = 0;
            for (int run = 0; run < LONGEST_INPUT; run++) {
                ticks += readRun(levels);
                if (!accept(' ')) {
                    break;
                }
            }
            expectEnd();
            return ticks;
        }

        private int readRun(Levels levels) {
            int level = 0;
            if (!accept('r')) {
                expect('h');
                level = readDigit('1');
            }
            expect(':');
            int ticks = readNumber('1');
            for (int tick = 0; tick < ticks; tick++) {
                levels.append(level);
            }
            return ticks;
        }

        void readScript(Script script) {
            startReading();
            script.clear();
            for (int command = 0; command < LONGEST_INPUT; command++) {
                readCommand(script);
                if (!accept(';')) {
                    break;
                }
            }
            expectEnd();
        }

        private void readCommand(Script script) {
            Verb verb = readVerb();
            if (verb == null) {
                return;
            }
            int first = readNumber('0');
            int second = 0;
            if (verb.numbers > 1) {
                expect(' ');
                second = readNumber('0');
            }
            int third = 0;
            if (verb.numbers > 2) {
                expect(' ');
                int sign = verb.isThirdSigned ? readSign() : 1;
                third = sign * readNumber('0');
            }
            script.append(verb, first, second, third);
        }

        /** Returns null, and stops at the sign with which no word goes on, if no word stands here. */
        private Verb readVerb() {
            int longest = 0;
            for (int index = 0; index < VERBS.length; index++) {
                Verb verb = VERBS[index];
                if (verb != null) {
                    int matched = matchedSigns(verb.word);
                    if (matched == verb.word.length()) {
                        position += matched;
                        return verb;
                    }
                    longest = Math.max(longest, matched);
                }
            }
            position += longest;
            broken = true;
            return null;
        }

        private int matchedSigns(String word) {
            int matched = 0;
            while (matched < word.length() && signAt(position + matched) == word.charAt(matched)) {
                matched++;
            }
            return matched;
        }

        private int readSign() {
            if (accept('-')) {
                return -1;
            }
            expect('+');
            return 1;
        }

        /** Reads up to three digits, the first of them not below the lowest one. */
        private int readNumber(char lowest) {
            int number = readDigit(lowest);
            for (int digit = 1; digit < MOST_DIGITS && isDigitNext('0'); digit++) {
                number = 10 * number + readDigit('0');
            }
            return number;
        }

        private int readDigit(char lowest) {
            if (!isDigitNext(lowest)) {
                broken = true;
                return 0;
            }
            int digit = signAt(position) - '0';
            position++;
            return digit;
        }

        private boolean isDigitNext(char lowest) {
            char sign = signAt(position);
            return !broken && sign >= lowest && sign <= '9';
        }

        private void startReading() {
            position = 0;
            broken = false;
        }

        private boolean accept(char sign) {
            if (broken || signAt(position) != sign) {
                return false;
            }
            position++;
            return true;
        }

        private void expect(char sign) {
            if (!accept(sign)) {
                broken = true;
            }
        }

        private void expectEnd() {
            if (position < length) {
                broken = true;
            }
        }

        /** The number 0, which nobody can type, stands for the end of the input. */
        private char signAt(int index) {
            return index >= 0 && index < length && index < text.length ? text[index] : (char) 0;
        }
    }

    /** The output text. */
    private static final class Output {
        private final char[] text = new char[LONGEST_OUTPUT];
        private int length;

        int length() {
            return length;
        }

        char at(int index) {
            return index >= 0 && index < text.length ? text[index] : (char) 0;
        }

        void clear() {
            length = 0;
        }

        void append(char sign) {
            if (length >= 0 && length < text.length) {
                text[length] = sign;
                length++;
            }
        }

        /** Appends a number from 0 to 999. */
        void appendNumber(int number) {
            if (number >= 100) {
                append((char) ('0' + number / 100));
            }
            if (number >= 10) {
                append((char) ('0' + number / 10 % 10));
            }
            append((char) ('0' + number % 10));
        }
    }
}
