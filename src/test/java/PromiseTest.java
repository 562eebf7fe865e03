import java.util.NoSuchElementException;

/** Promises 1 to 57 of the document, one after the other. */
public final class PromiseTest {
    private static final Class<IndexOutOfBoundsException> INDEX = IndexOutOfBoundsException.class;
    private static final Class<IllegalArgumentException> ARGUMENT = IllegalArgumentException.class;
    private static final Class<IllegalStateException> STATE = IllegalStateException.class;
    private static final Class<NoSuchElementException> MISSING = NoSuchElementException.class;
    private static final Class<ArithmeticException> ARITHMETIC = ArithmeticException.class;
    private static final int LEAST = Integer.MIN_VALUE;
    private static final int GREATEST = Integer.MAX_VALUE;

    public static void main(String[] args) {
        promise1NewObject();
        promise2Pass();
        promise3InsertRest();
        promise4Remove();
        promise5Mute();
        promise6Modulate();
        promise7Reverse();
        promise8Repeat();
        promise9Copy();
        promise10Paste();
        promise11AddMarker();
        promise12RemoveMarker();
        promise13Duration();
        promise14LevelAt();
        promises15To18Runs();
        promises19To21TickCounts();
        promises22To25Loudness();
        promise26IsSilent();
        promise27PeakLevel();
        promises28And29Rests();
        promise30NextChange();
        promise31FindRun();
        promises32And33Windows();
        promises34And35Periods();
        promises36And37Markers();
        promises38And39Bars();
        promise40LoudestBar();
        promise41AreBarsEqual();
        promise42ClipboardLength();
        promise43TrainCount();
        promise44MeanLevel();
        promise45RestShare();
        promise46IsConsistent();
        promise47RenderNotation();
        promise48RenderBars();
        promise49OutputAt();
        promise50Type();
        promise51Load();
        promise52RunScript();
        promise53ErrorPosition();
        promise53ErrorPositionsOfScripts();
        promise54FailedCommand();
        promise55Undo();
        promise56Save();
        promise57Restore();
        Check.end();
    }

    // ---- helpers ----

    private static void type(RailTimeline x, String text) {
        for (char character : text.toCharArray()) {
            x.type(character);
        }
    }

    private static int load(RailTimeline x, String notation) {
        type(x, notation);
        return x.load();
    }

    private static int run(RailTimeline x, String script) {
        type(x, script);
        return x.runScript();
    }

    private static RailTimeline of(String notation) {
        RailTimeline x = new RailTimeline();
        load(x, notation);
        return x;
    }

    /** A timeline whose levels and markers are those of a text such as "0033|3|". */
    private static RailTimeline ofBars(String bars) {
        RailTimeline x = new RailTimeline();
        String levels = bars.replace("|", "");
        if (!levels.isEmpty()) {
            x.insertRest(0, levels.length());
        }
        for (int time = 0; time < levels.length(); time++) {
            if (levels.charAt(time) != '0') {
                x.pass(time, 1, levels.charAt(time) - '0');
            }
        }
        int time = 0;
        for (char character : bars.toCharArray()) {
            if (character == '|') {
                x.addMarker(time);
            } else {
                time++;
            }
        }
        return x;
    }

    private static RailTimeline ofFullLength() {
        RailTimeline x = new RailTimeline();
        for (int part = 0; part < 4; part++) {
            x.insertRest(0, 50);
        }
        return x;
    }

    private static String output(RailTimeline x, int length) {
        StringBuilder text = new StringBuilder();
        for (int index = 0; index < length; index++) {
            text.append(x.outputAt(index));
        }
        Check.raises(INDEX, () -> x.outputAt(length), "outputAt behind the output " + text);
        return text.toString();
    }

    private static String bars(RailTimeline x) {
        return output(x, x.renderBars());
    }

    private static String notation(RailTimeline x) {
        return output(x, x.renderNotation());
    }

    private static void isBars(String due, RailTimeline x, String what) {
        Check.equal(due, bars(x), what + ", the bars after it");
    }

    /** The call throws, and the timeline, markers, clipboard, trains and changes are as before. */
    private static void refuses(Class<? extends RuntimeException> due, RailTimeline x, Check.Call call, String what) {
        String stateBefore = digest(x);
        Check.raises(due, call, what);
        Check.equal(stateBefore, digest(x), what + ", the state after it");
    }

    /** Few calls, for nothing is promised after the 512th of an object; EdgeTest looks more closely at refused calls. */
    private static String digest(RailTimeline x) {
        return x.duration() + " " + x.loudness() + " " + x.runCount() + " " + x.markerCount() + " " + x.clipboardLength() + " " + x.trainCount();
    }

    private interface OnInterval {
        Object call(int from, int to);
    }

    /** The call refuses each form of interval that is not valid. */
    private static void refusesBadIntervals(RailTimeline x, OnInterval method, String name) {
        int end = x.duration();
        int[][] bad = {{-1, 0}, {-1, -1}, {end, end + 1}, {end + 1, end + 1}, {0, end + 1}, {2, 1}, {0, -1},
            {LEAST, GREATEST}, {0, GREATEST}, {GREATEST, GREATEST}, {LEAST, LEAST}, {GREATEST, LEAST}, {LEAST, 0}};
        for (int[] interval : bad) {
            refuses(INDEX, x, () -> method.call(interval[0], interval[1]), name + " " + interval[0] + " " + interval[1]);
        }
    }

    // ---- promise by promise ----

    private static void promise1NewObject() {
        RailTimeline x = new RailTimeline();
        Check.equal(0, x.duration(), "new: duration");
        Check.equal(0, x.runCount(), "new: runCount");
        Check.equal(0, x.markerCount(), "new: markerCount");
        Check.equal(0, x.clipboardLength(), "new: clipboardLength");
        Check.equal(0, x.trainCount(), "new: trainCount");
        Check.equal(1, x.type('r'), "new: the first type");
        Check.raises(INDEX, () -> x.outputAt(0), "new: outputAt");
        Check.raises(MISSING, x::errorPosition, "new: errorPosition");
        Check.raises(MISSING, x::failedCommand, "new: failedCommand");
        Check.raises(STATE, x::undo, "new: undo");
        Check.raises(STATE, x::restore, "new: restore");
        isBars("", x, "new");
        RailTimeline other = new RailTimeline();
        other.pass(0, 1, 1);
        Check.equal(0, x.duration(), "new: objects share nothing");
    }

    private static void promise2Pass() {
        RailTimeline x = new RailTimeline();
        Check.equal(4, x.pass(2, 4, 3), "pass: silent ticks before the train do not count");
        isBars("003333", x, "pass");
        Check.equal(1, x.pass(1, 4, 3), "pass: a level that is as high is not raised");
        isBars("033333", x, "pass again");
        Check.equal(0, x.pass(2, 2, 2), "pass: a quieter train raises nothing");
        isBars("033333", x, "quieter pass");
        Check.equal(3, x.pass(4, 3, 9), "pass: raised and added ticks");
        isBars("0333999", x, "pass at the end");
        x.addMarker(7);
        x.pass(7, 2, 1);
        isBars("0333999|11", x, "pass: a marker at the end stays");
        RailTimeline edges = new RailTimeline();
        Check.equal(50, edges.pass(0, 50, 9), "pass: the longest train");
        Check.equal(1, edges.pass(199, 1, 1), "pass: the last tick");
        Check.equal(200, edges.duration(), "pass: the longest duration");
        Check.equal(50, edges.pass(150, 50, 2), "pass: up to the end");
        RailTimeline full = of("h3:2");
        int[][] bad = {{-1, 1, 1}, {200, 1, 1}, {0, 0, 1}, {0, 51, 1}, {0, 1, 0}, {0, 1, 10}, {0, -1, 1}, {0, 1, -1},
            {199, 51, 1}, {199, 2, 0}, {LEAST, 1, 1}, {GREATEST, 1, 1}, {1, GREATEST, 1}, {1, 1, GREATEST}, {GREATEST, GREATEST, 1}};
        for (int[] b : bad) {
            refuses(ARGUMENT, full, () -> full.pass(b[0], b[1], b[2]), "pass " + b[0] + " " + b[1] + " " + b[2]);
        }
        refuses(STATE, full, () -> full.pass(199, 2, 1), "pass 199 2 1");
        refuses(STATE, full, () -> full.pass(151, 50, 9), "pass 151 50 9");
    }

    private static void promise3InsertRest() {
        RailTimeline x = ofBars("|12|34|");
        Check.equal(7, x.insertRest(2, 3), "insertRest: in the middle");
        isBars("|12|00034|", x, "insertRest: the marker at the time stays, the later one moves");
        Check.equal(8, x.insertRest(0, 1), "insertRest: at the start");
        isBars("|012|00034|", x, "insertRest at the start");
        Check.equal(10, x.insertRest(8, 2), "insertRest: at the end");
        isBars("|012|00034|00", x, "insertRest at the end");
        RailTimeline empty = new RailTimeline();
        Check.equal(50, empty.insertRest(0, 50), "insertRest: into the empty timeline");
        refuses(INDEX, x, () -> x.insertRest(-1, 1), "insertRest -1 1");
        refuses(INDEX, x, () -> x.insertRest(11, 0), "insertRest 11 0");
        refuses(INDEX, x, () -> x.insertRest(GREATEST, GREATEST), "insertRest at the greatest time");
        refuses(ARGUMENT, x, () -> x.insertRest(0, 0), "insertRest 0 0");
        refuses(ARGUMENT, x, () -> x.insertRest(10, 51), "insertRest 10 51");
        refuses(ARGUMENT, x, () -> x.insertRest(0, GREATEST), "insertRest 0 greatest");
        refuses(ARGUMENT, x, () -> x.insertRest(0, LEAST), "insertRest 0 least");
        RailTimeline full = ofFullLength();
        Check.equal(200, full.duration(), "insertRest: up to 200");
        refuses(STATE, full, () -> full.insertRest(200, 1), "insertRest into the full timeline");
        refuses(ARGUMENT, full, () -> full.insertRest(200, 51), "insertRest 51 into the full timeline");
    }

    private static void promise4Remove() {
        RailTimeline x = ofBars("1|2|3|4|5|6");
        Check.equal(4, x.remove(1, 3), "remove");
        isBars("1|4|5|6", x, "remove: the marker inside and the one that would join another are deleted");
        RailTimeline joining = ofBars("12|3|4");
        joining.remove(1, 3);
        isBars("1|4", joining, "remove: the marker at the end moves to the start");
        RailTimeline staying = ofBars("1|23|4|");
        staying.remove(1, 2);
        isBars("1|3|4|", staying, "remove: the marker at the start stays");
        RailTimeline all = ofBars("|1|2|");
        Check.equal(0, all.remove(0, 2), "remove: all ticks");
        isBars("|", all, "remove all");
        RailTimeline none = ofBars("1|2|");
        Check.equal(2, none.remove(1, 1), "remove: the empty interval");
        isBars("1|2|", none, "remove nothing");
        Check.equal(2, none.remove(2, 2), "remove: the empty interval at the end");
        Check.equal(2, none.remove(0, 0), "remove: the empty interval at the start");
        isBars("1|2|", none, "remove nothing at the ends");
        Check.equal(0, new RailTimeline().remove(0, 0), "remove: from the empty timeline");
        refusesBadIntervals(ofBars("12|34|"), x::remove, "remove");
        RailTimeline checked = ofBars("12|34|");
        refusesBadIntervals(checked, checked::remove, "remove");
    }

    private static void promise5Mute() {
        RailTimeline x = ofBars("10|230|4");
        Check.equal(2, x.mute(1, 4), "mute: sounding ticks only");
        isBars("10|000|4", x, "mute");
        Check.equal(0, x.mute(1, 1), "mute: the empty interval");
        Check.equal(1, x.mute(5, 6), "mute: the last tick");
        Check.equal(0, x.mute(0, 0), "mute: empty at the start");
        isBars("10|000|0", x, "mute the last tick");
        refusesBadIntervals(x, x::mute, "mute");
    }

    private static void promise6Modulate() {
        RailTimeline x = ofBars("01589|");
        Check.equal(3, x.modulate(0, 5, 4), "modulate: up");
        isBars("05999|", x, "modulate up: silence stays, 9 is the limit");
        Check.equal(2, x.modulate(1, 3, -8), "modulate: down");
        isBars("01199|", x, "modulate down: 1 is the limit");
        Check.equal(0, x.modulate(0, 3, -1), "modulate: nothing is lower than 1");
        Check.equal(0, x.modulate(2, 2, 8), "modulate: the empty interval");
        Check.equal(2, x.modulate(0, 3, 8), "modulate: the greatest shift");
        isBars("09999|", x, "modulate by 8");
        refusesBadIntervals(x, (from, to) -> x.modulate(from, to, 1), "modulate");
        refusesBadIntervals(x, (from, to) -> x.modulate(from, to, 0), "modulate by 0");
        for (int shift : new int[] {0, 9, -9, LEAST, GREATEST}) {
            refuses(ARGUMENT, x, () -> x.modulate(0, 0, shift), "modulate by " + shift);
        }
    }

    private static void promise7Reverse() {
        RailTimeline x = ofBars("1|234|5");
        Check.equal(true, x.reverse(1, 4), "reverse: odd length");
        isBars("1|432|5", x, "reverse: markers stay");
        Check.equal(true, x.reverse(0, 2), "reverse: even length");
        isBars("4|132|5", x, "reverse an even interval");
        Check.equal(true, x.reverse(0, 5), "reverse: all");
        isBars("5|231|4", x, "reverse all");
        Check.equal(false, x.reverse(2, 3), "reverse: one tick");
        Check.equal(false, x.reverse(5, 5), "reverse: the empty interval");
        RailTimeline mirrored = ofBars("12021");
        Check.equal(false, mirrored.reverse(0, 5), "reverse: a palindrome");
        isBars("12021", mirrored, "reverse a palindrome");
        RailTimeline inner = ofBars("12311");
        Check.equal(true, inner.reverse(0, 5), "reverse: inner ticks differ");
        isBars("11321", inner, "reverse inner ticks");
        refusesBadIntervals(x, x::reverse, "reverse");
    }

    private static void promise8Repeat() {
        RailTimeline x = ofBars("|1|23|4|");
        Check.equal(8, x.repeat(1, 3, 2), "repeat");
        isBars("|1|23|23234|", x, "repeat: the marker at the insertion stays");
        Check.equal(8, x.repeat(2, 2, 9), "repeat: the empty interval");
        isBars("|1|23|23234|", x, "repeat nothing");
        Check.equal(10, x.repeat(7, 8, 2), "repeat: the last tick");
        isBars("|1|23|23234|44", x, "repeat the last tick");
        Check.equal(0, new RailTimeline().repeat(0, 0, 1), "repeat: the empty timeline");
        RailTimeline marked = ofBars("12|3");
        marked.repeat(0, 1, 1);
        isBars("112|3", marked, "repeat: a later marker moves");
        refusesBadIntervals(x, (from, to) -> x.repeat(from, to, 1), "repeat");
        refusesBadIntervals(x, (from, to) -> x.repeat(from, to, 0), "repeat 0 times");
        for (int times : new int[] {0, -1, 10, LEAST, GREATEST}) {
            refuses(ARGUMENT, x, () -> x.repeat(0, 1, times), "repeat times " + times);
        }
        RailTimeline twenty = of("h1:20");
        Check.equal(200, twenty.repeat(0, 20, 9), "repeat: up to 200");
        refuses(STATE, twenty, () -> twenty.repeat(0, 1, 1), "repeat beyond 200");
        refuses(STATE, twenty, () -> twenty.repeat(0, 200, 9), "repeat all");
        refuses(ARGUMENT, twenty, () -> twenty.repeat(0, 200, 10), "repeat all 10 times");
        Check.equal(200, twenty.repeat(200, 200, 9), "repeat: nothing at 200");
        RailTimeline room = of("h1:20 h2:1");
        refuses(STATE, room, () -> room.repeat(0, 20, 9), "repeat to 201");
    }

    private static void promise9Copy() {
        RailTimeline x = ofBars("1|234");
        Check.equal(2, x.copy(1, 3), "copy");
        Check.equal(2, x.clipboardLength(), "copy: clipboardLength");
        isBars("1|234", x, "copy");
        x.mute(0, 4);
        x.paste(0);
        isBars("230|000", x, "copy: the clipboard does not follow the timeline");
        Check.equal(1, x.copy(0, 1), "copy: replaces");
        x.paste(0);
        isBars("2230|000", x, "copy replaces");
        Check.equal(0, x.copy(7, 7), "copy: the empty interval");
        Check.raises(MISSING, () -> x.paste(0), "paste after an empty copy");
        Check.equal(200, ofFullLength().copy(0, 200), "copy: all of 200");
        x.copy(0, 2);
        refusesBadIntervals(x, x::copy, "copy");
    }

    private static void promise10Paste() {
        RailTimeline x = ofBars("|12|34|");
        x.copy(0, 3);
        Check.equal(7, x.paste(2), "paste");
        isBars("|12|12334|", x, "paste: the marker at the time stays, later ones move");
        Check.equal(10, x.paste(7), "paste: at the end");
        Check.equal(13, x.paste(0), "paste: again, at the start");
        isBars("|12312|12334|123", x, "paste thrice");
        refuses(INDEX, x, () -> x.paste(-1), "paste -1");
        refuses(INDEX, x, () -> x.paste(14), "paste 14");
        refuses(INDEX, x, () -> x.paste(LEAST), "paste least");
        refuses(INDEX, x, () -> x.paste(GREATEST), "paste greatest");
        RailTimeline none = ofBars("1");
        refuses(MISSING, none, () -> none.paste(1), "paste the empty clipboard");
        refuses(INDEX, none, () -> none.paste(2), "paste the empty clipboard outside");
        RailTimeline full = ofFullLength();
        refuses(MISSING, full, () -> full.paste(0), "paste the empty clipboard into the full timeline");
        full.copy(0, 2);
        full.remove(0, 1);
        refuses(STATE, full, () -> full.paste(0), "paste beyond 200");
        full.remove(0, 1);
        Check.equal(200, full.paste(198), "paste: up to 200");
    }

    private static void promise11AddMarker() {
        RailTimeline x = ofBars("12345");
        Check.equal(true, x.addMarker(3), "addMarker 3");
        Check.equal(false, x.addMarker(3), "addMarker 3 again");
        Check.equal(true, x.addMarker(5), "addMarker: at the duration");
        Check.equal(true, x.addMarker(0), "addMarker 0");
        isBars("|123|45|", x, "addMarker");
        refuses(INDEX, x, () -> x.addMarker(-1), "addMarker -1");
        refuses(INDEX, x, () -> x.addMarker(6), "addMarker 6");
        refuses(INDEX, x, () -> x.addMarker(GREATEST), "addMarker greatest");
        x.addMarker(4);
        x.addMarker(1);
        Check.equal(true, x.addMarker(2), "addMarker: the sixth");
        isBars("|1|2|3|4|5|", x, "six markers");
        Check.equal(false, x.addMarker(2), "addMarker: the time of one of six");
        RailTimeline six = ofBars("1|2|3|4|5|6|7");
        refuses(STATE, six, () -> six.addMarker(0), "addMarker: a seventh");
        refuses(INDEX, six, () -> six.addMarker(8), "addMarker: a seventh outside");
        Check.equal(false, six.addMarker(6), "addMarker: the last of six again");
        Check.equal(true, new RailTimeline().addMarker(0), "addMarker: in the empty timeline");
    }

    private static void promise12RemoveMarker() {
        RailTimeline x = ofBars("|1|2|3|");
        Check.equal(true, x.removeMarker(1), "removeMarker 1");
        Check.equal(false, x.removeMarker(1), "removeMarker 1 again");
        isBars("|12|3|", x, "removeMarker");
        Check.equal(true, x.removeMarker(3), "removeMarker: the last");
        Check.equal(true, x.removeMarker(0), "removeMarker: the first");
        isBars("12|3", x, "removeMarker thrice");
        for (int time : new int[] {-1, 0, 4, LEAST, GREATEST}) {
            Check.equal(false, x.removeMarker(time), "removeMarker " + time);
        }
        x.remove(0, 2);
        Check.equal(true, x.removeMarker(0), "removeMarker: the marker that moved");
        Check.equal(false, x.removeMarker(0), "removeMarker: none left");
    }

    private static void promise13Duration() {
        RailTimeline x = of("r:5 h3:12 r:1");
        Check.equal(18, x.duration(), "duration");
        x.remove(0, 18);
        Check.equal(0, x.duration(), "duration: empty");
    }

    private static void promise14LevelAt() {
        RailTimeline x = ofBars("07|9");
        Check.equal("0 7 9", x.levelAt(0) + " " + x.levelAt(1) + " " + x.levelAt(2), "levelAt");
        for (int time : new int[] {-1, 3, LEAST, GREATEST}) {
            Check.raises(INDEX, () -> x.levelAt(time), "levelAt " + time);
        }
        x.remove(1, 3);
        Check.raises(INDEX, () -> x.levelAt(1), "levelAt: a removed tick");
        Check.raises(INDEX, () -> new RailTimeline().levelAt(0), "levelAt: empty");
    }

    private static void promises15To18Runs() {
        RailTimeline x = ofBars("00|333|3053");
        int[][] due = {{0, 2, 0}, {2, 4, 3}, {6, 1, 0}, {7, 1, 5}, {8, 1, 3}};
        Check.equal(due.length, x.runCount(), "runCount: markers do not part runs");
        for (int run = 0; run < due.length; run++) {
            Check.equal(due[run][0], x.runStart(run), "runStart " + run);
            Check.equal(due[run][1], x.runLength(run), "runLength " + run);
            Check.equal(due[run][2], x.runLevel(run), "runLevel " + run);
        }
        for (int run : new int[] {-1, 5, LEAST, GREATEST}) {
            Check.raises(INDEX, () -> x.runStart(run), "runStart " + run);
            Check.raises(INDEX, () -> x.runLength(run), "runLength " + run);
            Check.raises(INDEX, () -> x.runLevel(run), "runLevel " + run);
        }
        x.mute(0, 9);
        Check.equal(1, x.runCount(), "runCount: one run");
        Check.equal(9, x.runLength(0), "runLength: one run");
        Check.raises(INDEX, () -> x.runStart(1), "runStart: behind one run");
        questionsAfterShrinking();
        RailTimeline empty = new RailTimeline();
        Check.equal(0, empty.runCount(), "runCount: empty");
        Check.raises(INDEX, () -> empty.runStart(0), "runStart: empty");
        Check.raises(INDEX, () -> empty.runLength(0), "runLength: empty");
        Check.raises(INDEX, () -> empty.runLevel(0), "runLevel: empty");
    }

    /** Nothing of a longer timeline is left in the answers about a shorter one. */
    private static void questionsAfterShrinking() {
        RailTimeline x = ofBars("1002034");
        Check.equal("7 6", x.duration() + " " + x.runCount(), "before shrinking");
        x.remove(1, 7);
        Check.equal("1 0 1 0 1 1", x.runCount() + " " + x.restTicks() + " " + x.humTicks() + " " + x.restCount() + " " + x.loudness()
                + " " + x.loudnessByLevels(), "after shrinking");
        Check.equal("0 1 1 0", x.ticksAtLevel(0) + " " + x.ticksAtLevel(1) + " " + x.peakLevel() + " " + x.ticksAtLevel(4),
                "levels after shrinking");
        Check.raises(MISSING, () -> x.restStartByLength(0), "restStartByLength: after shrinking");
        Check.raises(MISSING, () -> x.nextChange(0), "nextChange: after shrinking");
        Check.raises(MISSING, () -> x.findRun(2, 1), "findRun: after shrinking");
        x.insertRest(1, 6);
        isBars("1000000", x, "insertRest after shrinking");
        x.remove(1, 7);
        x.pass(6, 1, 2);
        isBars("1000002", x, "pass after shrinking");
    }

    private static void promises19To21TickCounts() {
        RailTimeline x = ofBars("0011090");
        Check.equal(4, x.restTicks(), "restTicks");
        Check.equal(3, x.humTicks(), "humTicks");
        Check.equal("4 2 0 1", x.ticksAtLevel(0) + " " + x.ticksAtLevel(1) + " " + x.ticksAtLevel(2) + " " + x.ticksAtLevel(9),
                "ticksAtLevel");
        for (int level : new int[] {-1, 10, LEAST, GREATEST}) {
            Check.raises(ARGUMENT, () -> x.ticksAtLevel(level), "ticksAtLevel " + level);
        }
        RailTimeline empty = new RailTimeline();
        Check.equal("0 0 0", empty.restTicks() + " " + empty.humTicks() + " " + empty.ticksAtLevel(0), "tick counts: empty");
    }

    private static void promises22To25Loudness() {
        RailTimeline x = ofBars("20|3390");
        Check.equal(17L, x.loudness(), "loudness");
        Check.equal(17L, x.loudnessByLevels(), "loudnessByLevels");
        int[][] due = {{0, 6, 17}, {0, 0, 0}, {6, 6, 0}, {1, 4, 6}, {2, 5, 15}, {5, 6, 0}, {0, 1, 2}};
        for (int[] d : due) {
            Check.equal(d[2], x.loudnessIn(d[0], d[1]), "loudnessIn " + d[0] + " " + d[1]);
            Check.equal(d[2], x.loudnessInByPrefixes(d[0], d[1]), "loudnessInByPrefixes " + d[0] + " " + d[1]);
        }
        refusesBadIntervals(x, x::loudnessIn, "loudnessIn");
        refusesBadIntervals(x, x::loudnessInByPrefixes, "loudnessInByPrefixes");
        RailTimeline empty = new RailTimeline();
        Check.equal(0L, empty.loudness(), "loudness: empty");
        Check.equal(0L, empty.loudnessByLevels(), "loudnessByLevels: empty");
        Check.equal(0, empty.loudnessIn(0, 0), "loudnessIn: empty");
        Check.equal(0, empty.loudnessInByPrefixes(0, 0), "loudnessInByPrefixes: empty");
    }

    private static void promise26IsSilent() {
        RailTimeline x = ofBars("00|100");
        Check.equal(true, x.isSilent(0, 2), "isSilent 0 2");
        Check.equal(false, x.isSilent(0, 3), "isSilent 0 3");
        Check.equal(false, x.isSilent(2, 3), "isSilent 2 3");
        Check.equal(true, x.isSilent(3, 5), "isSilent 3 5");
        Check.equal(true, x.isSilent(2, 2), "isSilent: empty before a sounding tick");
        Check.equal(true, x.isSilent(5, 5), "isSilent: empty at the end");
        refusesBadIntervals(x, x::isSilent, "isSilent");
    }

    private static void promise27PeakLevel() {
        Check.equal(7, ofBars("0172").peakLevel(), "peakLevel");
        Check.equal(9, ofBars("9").peakLevel(), "peakLevel: the loudest");
        Check.equal(8, ofBars("08").peakLevel(), "peakLevel: the last tick");
        Check.equal(0, ofBars("00").peakLevel(), "peakLevel: silence");
        RailTimeline x = ofBars("39");
        x.remove(1, 2);
        Check.equal(3, x.peakLevel(), "peakLevel: a removed tick");
        Check.equal(0, new RailTimeline().peakLevel(), "peakLevel: empty");
    }

    private static void promises28And29Rests() {
        RailTimeline x = ofBars("0100200030044444");
        Check.equal(4, x.restCount(), "restCount");
        Check.equal("5 2 9 0", x.restStartByLength(0) + " " + x.restStartByLength(1) + " " + x.restStartByLength(2) + " "
                + x.restStartByLength(3), "restStartByLength: longest first, then earliest");
        for (int rank : new int[] {-1, 4, 5, LEAST, GREATEST}) {
            Check.raises(MISSING, () -> x.restStartByLength(rank), "restStartByLength " + rank);
        }
        Check.equal(0, ofBars("11").restCount(), "restCount: none");
        Check.raises(MISSING, () -> ofBars("11").restStartByLength(0), "restStartByLength: none");
        Check.equal(0, new RailTimeline().restCount(), "restCount: empty");
        Check.raises(MISSING, () -> new RailTimeline().restStartByLength(0), "restStartByLength: empty");
    }

    private static void promise30NextChange() {
        RailTimeline x = ofBars("001|122");
        Check.equal("2 2 4 4", x.nextChange(0) + " " + x.nextChange(1) + " " + x.nextChange(2) + " " + x.nextChange(3), "nextChange");
        Check.raises(MISSING, () -> x.nextChange(4), "nextChange 4");
        Check.raises(MISSING, () -> x.nextChange(5), "nextChange 5");
        for (int time : new int[] {-1, 6, LEAST, GREATEST}) {
            Check.raises(INDEX, () -> x.nextChange(time), "nextChange " + time);
        }
        Check.raises(INDEX, () -> new RailTimeline().nextChange(0), "nextChange: empty");
    }

    private static void promise31FindRun() {
        RailTimeline x = ofBars("0110022203");
        Check.equal("0 2 2 1 1 3", x.findRun(0, 1) + " " + x.findRun(0, 2) + " " + x.findRun(0, 2) + " " + x.findRun(1, 1) + " "
                + x.findRun(1, 2) + " " + x.findRun(2, 3), "findRun");
        Check.equal(5, x.findRun(3, 1), "findRun: the last");
        Check.raises(MISSING, () -> x.findRun(0, 3), "findRun 0 3");
        Check.raises(MISSING, () -> x.findRun(9, 1), "findRun 9 1");
        Check.raises(MISSING, () -> x.findRun(0, GREATEST), "findRun 0 greatest");
        int[][] bad = {{-1, 1}, {10, 1}, {0, 0}, {0, -1}, {LEAST, 1}, {GREATEST, 1}, {0, LEAST}, {10, 0}};
        for (int[] b : bad) {
            Check.raises(ARGUMENT, () -> x.findRun(b[0], b[1]), "findRun " + b[0] + " " + b[1]);
        }
        Check.raises(MISSING, () -> new RailTimeline().findRun(0, 1), "findRun: empty");
        Check.raises(ARGUMENT, () -> new RailTimeline().findRun(0, 0), "findRun: empty and a bad length");
    }

    private static void promises32And33Windows() {
        RailTimeline x = ofBars("912129109");
        int[] due = {7, 6, 1, 1, 3, 2, 1, 0, 0};
        for (int length = 1; length <= due.length; length++) {
            int l = length;
            Check.equal(due[length - 1], x.quietestWindow(l), "quietestWindow " + length);
            Check.equal(due[length - 1], x.quietestWindowByTrial(l), "quietestWindowByTrial " + length);
        }
        Check.equal(0, ofBars("11111").quietestWindow(2), "quietestWindow: the earliest of equal ones");
        Check.equal(0, ofBars("11111").quietestWindowByTrial(2), "quietestWindowByTrial: the earliest of equal ones");
        Check.equal(3, ofBars("98765").quietestWindow(2), "quietestWindow: the last");
        Check.equal(3, ofBars("98765").quietestWindowByTrial(2), "quietestWindowByTrial: the last");
        for (int length : new int[] {0, -1, LEAST}) {
            Check.raises(ARGUMENT, () -> x.quietestWindow(length), "quietestWindow " + length);
            Check.raises(ARGUMENT, () -> x.quietestWindowByTrial(length), "quietestWindowByTrial " + length);
            Check.raises(ARGUMENT, () -> new RailTimeline().quietestWindow(length), "quietestWindow: empty " + length);
            Check.raises(ARGUMENT, () -> new RailTimeline().quietestWindowByTrial(length), "quietestWindowByTrial: empty " + length);
        }
        for (int length : new int[] {10, GREATEST}) {
            Check.raises(MISSING, () -> x.quietestWindow(length), "quietestWindow " + length);
            Check.raises(MISSING, () -> x.quietestWindowByTrial(length), "quietestWindowByTrial " + length);
        }
        Check.raises(MISSING, () -> new RailTimeline().quietestWindow(1), "quietestWindow: empty");
        Check.raises(MISSING, () -> new RailTimeline().quietestWindowByTrial(1), "quietestWindowByTrial: empty");
    }

    private static void promises34And35Periods() {
        Object[][] due = {{"0", 1}, {"1111", 1}, {"12", 2}, {"1212", 2}, {"12121", 2}, {"121221", 5}, {"1213", 4}, {"12312312", 3},
            {"1122", 4}, {"11211", 3}, {"112112111", 7}, {"0010010", 3}, {"1110", 4}, {"121231212412123121", 10}, {"1121", 3}, {"11121112", 4},
            {"121121122", 9}, {"1211", 3}, {"112113112112", 9}};
        for (Object[] d : due) {
            RailTimeline x = ofBars((String) d[0]);
            Check.equal(d[1], x.period(), "period of " + d[0]);
            Check.equal(d[1], x.periodByTrial(), "periodByTrial of " + d[0]);
        }
        RailTimeline shrunk = ofBars("121212");
        Check.equal(2, shrunk.period(), "period before a change");
        shrunk.mute(5, 6);
        Check.equal(6, shrunk.period(), "period after a change");
        Check.raises(MISSING, () -> new RailTimeline().period(), "period: empty");
        Check.raises(MISSING, () -> new RailTimeline().periodByTrial(), "periodByTrial: empty");
    }

    private static void promises36And37Markers() {
        RailTimeline x = ofBars("123456");
        Check.equal(0, x.markerCount(), "markerCount: none");
        Check.raises(INDEX, () -> x.markerTime(0), "markerTime: none");
        for (int time : new int[] {4, 0, 6, 2}) {
            x.addMarker(time);
        }
        Check.equal(4, x.markerCount(), "markerCount");
        Check.equal("0 2 4 6", x.markerTime(0) + " " + x.markerTime(1) + " " + x.markerTime(2) + " " + x.markerTime(3),
                "markerTime: in order of time");
        for (int marker : new int[] {-1, 4, LEAST, GREATEST}) {
            Check.raises(INDEX, () -> x.markerTime(marker), "markerTime " + marker);
        }
        x.removeMarker(0);
        Check.equal(3, x.markerCount(), "markerCount: after removeMarker");
        Check.equal(2, x.markerTime(0), "markerTime: after removeMarker");
        Check.raises(INDEX, () -> x.markerTime(3), "markerTime: after removeMarker");
        load(x, "r:9");
        Check.equal(0, x.markerCount(), "markerCount: load deletes them");
    }

    private static void promises38And39Bars() {
        RailTimeline x = ofBars("|12|345|6|");
        int[][] due = {{0, 0}, {2, 3}, {3, 12}, {1, 6}, {0, 0}};
        for (int bar = 0; bar < due.length; bar++) {
            Check.equal(due[bar][0], x.barLength(bar), "barLength " + bar);
            Check.equal(due[bar][1], x.barLoudness(bar), "barLoudness " + bar);
        }
        for (int bar : new int[] {-1, 5, LEAST, GREATEST}) {
            Check.raises(INDEX, () -> x.barLength(bar), "barLength " + bar);
            Check.raises(INDEX, () -> x.barLoudness(bar), "barLoudness " + bar);
        }
        x.pass(6, 2, 9);
        Check.equal(2, x.barLength(4), "barLength: the last bar grows");
        Check.equal(18, x.barLoudness(4), "barLoudness: the last bar grows");
        RailTimeline plain = ofBars("24");
        Check.equal(2, plain.barLength(0), "barLength: no marker");
        Check.equal(6, plain.barLoudness(0), "barLoudness: no marker");
        Check.raises(INDEX, () -> plain.barLength(1), "barLength: no such bar");
        Check.raises(INDEX, () -> plain.barLoudness(1), "barLoudness: no such bar");
        Check.equal(0, new RailTimeline().barLength(0), "barLength: empty");
        Check.equal(0, new RailTimeline().barLoudness(0), "barLoudness: empty");
    }

    private static void promise40LoudestBar() {
        Check.equal(0, new RailTimeline().loudestBar(), "loudestBar: empty");
        Check.equal(0, ofBars("123").loudestBar(), "loudestBar: one bar");
        Check.equal(1, ofBars("11|9|22").loudestBar(), "loudestBar: the greatest sum");
        Check.equal(2, ofBars("3|3|12|3").loudestBar(), "loudestBar: the longest of equal sums");
        Check.equal(1, ofBars("4|23|32|5").loudestBar(), "loudestBar: the first of equal ones");
        Check.equal(2, ofBars("|0|00|0").loudestBar(), "loudestBar: the longest silence");
        Check.equal(0, ofBars("|").loudestBar(), "loudestBar: two empty bars");
        Check.equal(3, ofBars("1|1|1|2").loudestBar(), "loudestBar: the last");
    }

    private static void promise41AreBarsEqual() {
        RailTimeline x = ofBars("|12|12|21|120|");
        Check.equal(true, x.areBarsEqual(1, 2), "areBarsEqual: the same levels");
        Check.equal(true, x.areBarsEqual(2, 1), "areBarsEqual: turned");
        Check.equal(false, x.areBarsEqual(1, 3), "areBarsEqual: another order");
        Check.equal(false, x.areBarsEqual(1, 4), "areBarsEqual: a longer bar that begins alike");
        Check.equal(false, x.areBarsEqual(4, 1), "areBarsEqual: a shorter bar");
        Check.equal(true, x.areBarsEqual(0, 5), "areBarsEqual: two empty bars");
        Check.equal(false, x.areBarsEqual(0, 1), "areBarsEqual: one empty bar");
        Check.equal(true, x.areBarsEqual(3, 3), "areBarsEqual: a bar and itself");
        int[][] bad = {{-1, 0}, {0, -1}, {6, 0}, {0, 6}, {LEAST, GREATEST}, {GREATEST, 0}, {0, LEAST}};
        for (int[] b : bad) {
            Check.raises(INDEX, () -> x.areBarsEqual(b[0], b[1]), "areBarsEqual " + b[0] + " " + b[1]);
        }
    }

    private static void promise42ClipboardLength() {
        RailTimeline x = ofBars("12345");
        x.copy(1, 4);
        Check.equal(3, x.clipboardLength(), "clipboardLength");
        x.paste(0);
        x.remove(0, 8);
        load(x, "r:1");
        Check.equal(3, x.clipboardLength(), "clipboardLength: paste, remove and load keep it");
        x.copy(0, 0);
        Check.equal(0, x.clipboardLength(), "clipboardLength: an empty copy");
    }

    private static void promise43TrainCount() {
        RailTimeline x = new RailTimeline();
        x.pass(0, 1, 5);
        x.pass(0, 1, 1);
        Check.equal(2, x.trainCount(), "trainCount: a train that raises nothing has passed");
        Check.raises(ARGUMENT, () -> x.pass(0, 0, 1), "pass 0 0 1");
        Check.raises(STATE, () -> x.pass(199, 2, 1), "pass 199 2 1");
        Check.equal(2, x.trainCount(), "trainCount: refused trains");
        run(x, "pass 0 1 1;pass 5 1 1");
        Check.equal(4, x.trainCount(), "trainCount: trains of a script");
        Check.raises(STATE, () -> run(x, "pass 0 1 1;paste 0"), "a script that fails");
        Check.equal(4, x.trainCount(), "trainCount: a script that fails");
        load(x, "r:3");
        x.mute(0, 3);
        Check.equal(4, x.trainCount(), "trainCount: load keeps it");
        x.undo();
        x.undo();
        x.undo();
        Check.equal(2, x.trainCount(), "trainCount: undo");
    }

    private static void promise44MeanLevel() {
        Check.equal(2.5, ofBars("0424").meanLevel(), "meanLevel");
        Check.equal(1.0 / 3.0, ofBars("001").meanLevel(), "meanLevel: a third");
        Check.equal(0.0, ofBars("00").meanLevel(), "meanLevel: silence");
        Check.equal(7.0, ofBars("7").meanLevel(), "meanLevel: one tick");
        Check.raises(ARITHMETIC, () -> new RailTimeline().meanLevel(), "meanLevel: empty");
    }

    private static void promise45RestShare() {
        Check.equal(0.25f, ofBars("1230").restShare(), "restShare");
        Check.equal(2f / 3f, ofBars("001").restShare(), "restShare: two thirds");
        Check.equal(1f, ofBars("00").restShare(), "restShare: silence");
        Check.equal(1f, ofBars("0").restShare(), "restShare: one tick");
        Check.equal(0f, ofBars("12").restShare(), "restShare: no rest");
        Check.raises(ARITHMETIC, () -> new RailTimeline().restShare(), "restShare: empty");
    }

    private static void promise46IsConsistent() {
        Check.equal(true, new RailTimeline().isConsistent(), "isConsistent: empty");
        Check.equal(true, ofBars("1").isConsistent(), "isConsistent: one tick");
        Check.equal(true, ofBars("0|0|1203321").isConsistent(), "isConsistent: some ticks");
        Check.equal(true, of("r:1 r:2 h1:3 h1:1").isConsistent(), "isConsistent: joined runs");
        RailTimeline x = ofFullLength();
        Check.equal(true, x.isConsistent(), "isConsistent: the full timeline");
        String before = bars(x);
        x.isConsistent();
        isBars(before, x, "isConsistent");
    }

    private static void promise47RenderNotation() {
        RailTimeline x = new RailTimeline();
        Check.equal(0, x.renderNotation(), "renderNotation: empty");
        load(x, "r:5 h3:12 r:1");
        Check.equal(13, x.renderNotation(), "renderNotation: the length");
        Check.equal("r:5 h3:12 r:1", notation(x), "renderNotation");
        load(x, "h9:1 h9:9 r:2 r:100");
        Check.equal("h9:10 r:102", notation(x), "renderNotation: joined runs, three digits");
        x.addMarker(3);
        Check.equal("h9:10 r:102", notation(x), "renderNotation: no markers");
        load(x, "h1:9 h2:10 h3:11 h4:19 r:20");
        Check.equal("h1:9 h2:10 h3:11 h4:19 r:20", notation(x), "renderNotation: one and two digits");
        load(x, "r:99 h1:100");
        Check.equal("r:99 h1:100", notation(x), "renderNotation: 99 and 100");
        Check.equal("r:200", notation(ofFullLength()), "renderNotation: 200");
        x.remove(0, x.duration());
        Check.equal("", notation(x), "renderNotation: the empty text replaces the older one");
        longestNotation();
        eachLengthAndLevel();
    }

    private static void eachLengthAndLevel() {
        for (int ticks = 1; ticks <= 200; ticks++) {
            int level = ticks % 10;
            String run = (level == 0 ? "r" : "h" + level) + ":" + ticks;
            Check.equal(run, notation(of(run)), "renderNotation: one run");
        }
    }

    /** Read from three objects, for one answers no more than 512 calls. */
    private static void longestNotation() {
        String text = "h1:1 h2:1 ".repeat(100).trim();
        for (int start = 0; start < text.length(); start += 400) {
            RailTimeline x = ofBars("12");
            x.repeat(0, 2, 9);
            x.repeat(0, 20, 9);
            Check.equal(999, x.renderNotation(), "renderNotation: the longest");
            for (int index = start; index < Math.min(start + 400, text.length()); index++) {
                Check.equal(text.charAt(index), x.outputAt(index), "renderNotation: the longest text at " + index);
            }
            Check.raises(INDEX, () -> x.outputAt(text.length()), "renderNotation: behind the longest text");
        }
    }

    private static void promise48RenderBars() {
        RailTimeline x = ofBars("0033|3|");
        Check.equal(7, x.renderBars(), "renderBars: the length");
        Check.equal("0033|3|", bars(x), "renderBars");
        x.addMarker(0);
        Check.equal("|0033|3|", bars(x), "renderBars: a marker at the start");
        RailTimeline full = ofFullLength();
        for (int time : new int[] {0, 40, 80, 120, 160, 200}) {
            full.addMarker(time);
        }
        Check.equal(206, full.renderBars(), "renderBars: the longest");
        RailTimeline empty = new RailTimeline();
        Check.equal(0, empty.renderBars(), "renderBars: empty");
        empty.addMarker(0);
        Check.equal("|", bars(empty), "renderBars: only a marker");
    }

    private static void promise49OutputAt() {
        RailTimeline x = ofBars("0912");
        Check.raises(INDEX, () -> x.outputAt(0), "outputAt: the output is empty initially");
        x.renderBars();
        x.remove(0, 4);
        Check.equal('0', x.outputAt(0), "outputAt: later changes do not touch the output");
        Check.equal('2', x.outputAt(3), "outputAt: the last character");
        for (int index : new int[] {-1, 4, LEAST, GREATEST}) {
            Check.raises(INDEX, () -> x.outputAt(index), "outputAt " + index);
        }
        x.undo();
        x.save();
        x.restore();
        Check.equal('9', x.outputAt(1), "outputAt: undo and restore do not touch the output");
        x.renderNotation();
        Check.equal('r', x.outputAt(0), "outputAt: the new output");
    }

    private static void promise50Type() {
        RailTimeline x = new RailTimeline();
        Check.equal(1, x.type(' '), "type: 32");
        Check.equal(2, x.type('~'), "type: 126");
        for (int code : new int[] {0, 31, 127, 255, 0xFFFF}) {
            Check.raises(ARGUMENT, () -> x.type((char) code), "type " + code);
        }
        for (int length = 3; length <= 60; length++) {
            Check.equal(length, x.type('a'), "type: the length " + length);
        }
        Check.raises(STATE, () -> x.type('a'), "type: the buffer is full");
        Check.raises(ARGUMENT, () -> x.type((char) 31), "type: a bad character and the buffer is full");
        Check.raises(ARGUMENT, x::load, "load: the full buffer");
        Check.equal(1, x.type('a'), "type: after load");
        Check.raises(ARGUMENT, x::runScript, "runScript: a letter");
        Check.equal(1, x.type('a'), "type: after runScript");
        x.pass(0, 1, 1);
        x.undo();
        x.save();
        x.restore();
        Check.equal(2, x.type('a'), "type: undo and restore do not touch the input");
    }

    private static void promise51Load() {
        RailTimeline x = ofBars("1|23|");
        x.copy(0, 2);
        Check.equal(18, load(x, "r:5 h3:12 r:1"), "load");
        isBars("000003333333333330", x, "load: the markers are deleted");
        Check.equal(2, x.clipboardLength(), "load: the clipboard stays");
        Check.equal(1, x.type('r'), "load: the input is empty afterwards");
        Check.raises(ARGUMENT, x::load, "load r");
        Check.equal(0, load(x, ""), "load: the empty notation");
        isBars("", x, "load nothing");
        Check.equal(200, load(x, "h1:100 h1:99 r:1"), "load: 200 ticks");
        Check.equal(2, x.runCount(), "load: runs of the same level are joined");
        Check.equal(9, load(x, "h1:1 h2:1 h3:1 h4:1 h5:1 h6:1 h7:1 h8:1 h9:1"), "load: each level");
        isBars("123456789", x, "load each level");
        x.addMarker(4);
        refuses(STATE, x, () -> load(x, "h1:100 r:101"), "load: 201 ticks");
        Check.equal(1, x.type('r'), "load: the input is empty after an exception");
        refuses(ARGUMENT, x, x::load, "load r again");
        refuses(ARGUMENT, x, () -> load(x, "r:999 r:"), "load: a bad notation that is too long as well");
        Check.equal(8, x.errorPosition(), "load: the error position");
        refuses(STATE, x, () -> load(x, "r:999 r:999 r:999 r:999 r:999 r:999 r:999 r:999 r:999 r:999"), "load: 9990 ticks");
        Check.equal(8, x.errorPosition(), "load: too long is no error of form");
        x.undo();
        isBars("123456789", x, "load: a refused one is no change");
        for (String bad : new String[] {" ", "r", "h", "x", "r:0", "r:", "h0:1", "h:1", "h1", "h1:0", "h12:1", "r1:1", "r:1234", "r:1  r:1",
            "r:1 ", " r:1", "r:1;r:1", "R:1", "r:1a", "r:01", "h1:1 h", "h1:1 0", "r:-1", "mark 0"}) {
            RailTimeline y = ofBars("1|23|");
            refuses(ARGUMENT, y, () -> load(y, bad), "load of " + bad);
        }
    }

    private static void promise52RunScript() {
        RailTimeline x = new RailTimeline();
        Check.equal(3, run(x, "pass 0 3 5;rest 1 2;mark 1"), "runScript");
        isBars("5|0055", x, "runScript");
        Check.equal(3, run(x, "remove 0 1;mute 2 3;reverse 0 4"), "runScript: remove, mute, reverse");
        isBars("|5000", x, "remove, mute, reverse");
        Check.equal(4, run(x, "copy 0 2;paste 4;repeat 0 1 2;unmark 0"), "runScript: copy, paste, repeat, unmark");
        isBars("55500050", x, "copy, paste, repeat, unmark");
        Check.equal(2, run(x, "modulate 0 2 +3;modulate 2 8 -4"), "runScript: modulate");
        isBars("88100010", x, "modulate");
        Check.equal(1, run(x, "pass 007 01 009"), "runScript: leading zeros");
        isBars("88100019", x, "leading zeros");
        Check.equal(2, run(x, "modulate 0 2 -1;modulate 0 1 -002"), "runScript: modulate down");
        isBars("57100019", x, "modulate down by a script");
        Check.equal(1, run(x, "pass 0 2 8"), "runScript: pass");
        Check.equal(8, run(x, "mark 0;mark 1;mark 2;mark 3;mark 4;mark 5;mark 0;mark 1"), "runScript: the most commands");
        Check.equal(6, x.markerCount(), "runScript: the markers of the most commands");
        Check.equal(1, run(x, "unmark 999"), "runScript: a marker that is not there");
        Check.equal(1, x.type('a'), "runScript: the input is empty afterwards");
        Check.raises(ARGUMENT, x::runScript, "runScript a");

        x.copy(0, 3);
        refuses(ARGUMENT, x, () -> run(x, "unmark 0;pass 20 5 5;copy 0 1;load"), "runScript: load is no command");
        refuses(STATE, x, () -> run(x, "unmark 0;pass 20 5 5;copy 0 1;rest 99 1"), "runScript: all or nothing");
        Check.equal(3, x.failedCommand(), "runScript: the failed command");
        Check.equal(1, x.type('a'), "runScript: the input is empty after a failure");
        refuses(ARGUMENT, x, x::runScript, "runScript a again");
        refuses(ARGUMENT, x, x::runScript, "runScript: the empty input");
        Check.equal(0, x.errorPosition(), "runScript: the error position of the empty input");
        refuses(ARGUMENT, x, () -> run(x, "paste 999;"), "runScript: the form comes first");
        String[] failing = {"pass 200 1 1", "pass 0 0 1", "pass 0 51 1", "pass 0 1 0", "pass 0 1 10", "pass 199 2 1", "rest 9 1", "rest 0 0",
            "rest 0 51", "remove 1 0", "remove 0 9", "mute 0 9", "reverse 2 1", "copy 0 9", "modulate 0 1 +0", "modulate 0 1 -0",
            "modulate 0 1 +9", "modulate 0 1 -9", "modulate 0 9 +1", "repeat 0 1 0", "repeat 0 1 10", "repeat 0 9 1", "paste 9",
            "mark 6", "mark 9"};
        for (String script : failing) {
            RailTimeline y = ofBars("|8|8|1|0|0|019");
            y.copy(0, 3);
            refuses(STATE, y, () -> run(y, script), "runScript of " + script);
            Check.equal(0, y.failedCommand(), "failedCommand of " + script);
        }
        RailTimeline empty = new RailTimeline();
        refuses(STATE, empty, () -> run(empty, "rest 0 50;paste 0"), "runScript: paste without a clipboard");
        Check.equal(2, run(empty, "mark 0;mark 0"), "runScript: false is no failure");
    }

    private static void promise53ErrorPosition() {
        RailTimeline x = new RailTimeline();
        Check.raises(MISSING, x::errorPosition, "errorPosition: no input yet");
        Object[][] due = {{"x", 0}, {" ", 0}, {"r", 1}, {"rr", 1}, {"r:", 2}, {"r:0", 2}, {"r:1x", 3}, {"r:1 ", 4}, {"r:1  ", 4}, {"r:12", -1},
            {"r:1234", 5}, {"r:123 r", 7}, {"h", 1}, {"h0", 1}, {"h0:1", 1}, {"h1", 2}, {"h12", 2}, {"h1:", 3}, {"h1:01", 3}, {"h1:1;", 4},
            {"h9:1 r:1 r:0", 11}, {"r:12:", 4}, {"0", 0}, {"r:1 s", 4}, {"h:", 1}, {"r1", 1}};
        for (Object[] d : due) {
            if ((int) d[1] < 0) {
                load(x, (String) d[0]);
            } else {
                Check.raises(ARGUMENT, () -> load(x, (String) d[0]), "load of " + d[0]);
                Check.equal(d[1], x.errorPosition(), "errorPosition of the notation " + d[0]);
            }
        }
        load(x, "r:1");
        Check.equal(1, x.errorPosition(), "errorPosition: a later good input does not change it");
        x.save();
        x.restore();
        x.pass(0, 1, 1);
        x.undo();
        Check.equal(1, x.errorPosition(), "errorPosition: undo and restore do not change it");
        Check.raises(ARGUMENT, () -> run(x, "pass 1;"), "runScript pass 1;");
        Check.equal(6, x.errorPosition(), "errorPosition: the latest of load and runScript");
    }

    private static void promise53ErrorPositionsOfScripts() {
        Object[][] due = {{"", 0}, {"x", 0}, {"p", 1}, {"pa", 2}, {"pas", 3}, {"past", 4}, {"pasta", 4}, {"pass", 4}, {"pass ", 5}, {"pass  ", 5},
            {"passe", 4}, {"re", 2}, {"rez", 2}, {"res", 3}, {"rest ", 5}, {"ress", 3}, {"rem", 3}, {"rema", 3}, {"rep", 3}, {"repl", 3},
            {"rev", 3}, {"reva", 3}, {"m", 1}, {"ma", 2}, {"max", 2}, {"mu", 2}, {"mo", 2}, {"my", 1}, {"u", 1}, {"un", 2}, {"unmark", 6},
            {"unmark0", 6}, {"c", 1}, {"cut", 1}, {"mark 0 ", 6}, {"mark 0;", 7}, {"mark 0; ", 7}, {"mark 0;;", 7}, {"mark 0000", 8},
            {"mark +1", 5}, {"mark -1", 5}, {"mark a", 5}, {"mark 0,", 6}, {"mute 0", 6}, {"mute 0;", 6}, {"mute 0 ", 7}, {"mute 0 1 ", 8},
            {"mute 12a 1", 7}, {"pass 0 1", 8}, {"pass 0 1;", 8}, {"pass 0 1 +1", 9}, {"modulate 0 1 1", 13}, {"modulate 0 1 ", 13},
            {"modulate 0 1 +", 14}, {"modulate 0 1 +-", 14}, {"modulate 0 1 -1234", 17}, {"modulate +0 1 1", 9}, {"repeat 0 1 -1", 11},
            {"paste ;", 6}, {"Mark 0", 0}, {" mark 0", 0}, {"mark 0;past", 11}, {"mark 0;xark 1", 7}, {"paste 0;mark 1;rest 0 1 1", 23},
            {"load", 0}, {"r:1", 1}, {"undo", 2}};
        for (Object[] d : due) {
            RailTimeline x = new RailTimeline();
            Check.raises(ARGUMENT, () -> run(x, (String) d[0]), "runScript of " + d[0]);
            Check.equal(d[1], x.errorPosition(), "errorPosition of the script " + d[0]);
            Check.raises(MISSING, x::failedCommand, "failedCommand: an input of another form has none");
        }
    }

    private static void promise54FailedCommand() {
        RailTimeline x = new RailTimeline();
        Check.raises(ARGUMENT, () -> run(x, "x"), "runScript x");
        Check.raises(MISSING, x::failedCommand, "failedCommand: no failure yet");
        Check.raises(STATE, () -> run(x, "pass 0 3 5;mark 1;remove 2 9"), "runScript with a failure");
        Check.equal(2, x.failedCommand(), "failedCommand");
        Check.raises(STATE, () -> run(x, "paste 0;paste 1"), "runScript with two failures");
        Check.equal(0, x.failedCommand(), "failedCommand: the first one");
        Check.raises(STATE, () -> run(x, "mark 0;mark 1"), "runScript with a failure at the end");
        Check.equal(1, x.failedCommand(), "failedCommand: the last command");
        run(x, "mark 0");
        Check.raises(ARGUMENT, () -> run(x, "mark 0;mark"), "runScript of another form");
        x.save();
        x.restore();
        Check.equal(1, x.failedCommand(), "failedCommand: kept");
    }

    private static void promise55Undo() {
        RailTimeline x = new RailTimeline();
        Check.raises(STATE, x::undo, "undo: nothing yet");
        x.pass(0, 3, 5);
        x.addMarker(1);
        x.copy(0, 2);
        x.mute(0, 1);
        Check.equal(3, x.undo(), "undo: mute");
        isBars("5|55", x, "undo mute");
        Check.equal(2, x.undo(), "undo: copy");
        Check.equal(0, x.clipboardLength(), "undo: the clipboard");
        Check.equal(1, x.undo(), "undo: addMarker");
        isBars("555", x, "undo addMarker");
        Check.equal(0, x.undo(), "undo: pass");
        Check.equal(0, x.trainCount(), "undo: the trains");
        isBars("", x, "undo pass");
        Check.raises(STATE, x::undo, "undo: nothing more");
        undoEachMethod();
        undoLatestEight();
        undoWithoutChanges();
    }

    private static void undoEachMethod() {
        RailTimeline x = ofBars("1|23|");
        x.copy(0, 1);
        String before = bars(x);
        String[] scripts = {"pass 9 1 1", "rest 0 1", "remove 0 2", "mute 0 3", "reverse 0 3", "copy 0 3", "modulate 0 3 +1", "repeat 0 3 3",
            "paste 0", "mark 0", "unmark 1", "copy 0 3;paste 0;unmark 1"};
        for (String script : scripts) {
            run(x, script);
            x.undo();
            isBars(before, x, "undo of " + script);
            Check.equal(1, x.clipboardLength(), "undo of " + script + ", the clipboard");
        }
        load(x, "r:9");
        x.undo();
        isBars(before, x, "undo of load");
        int changes = 0;
        RailTimeline fresh = new RailTimeline();
        Check.Call[] calls = {() -> fresh.mute(0, 0), () -> fresh.reverse(0, 0), () -> fresh.modulate(0, 0, 1), () -> fresh.remove(0, 0),
            () -> fresh.repeat(0, 0, 1), () -> fresh.copy(0, 0), () -> fresh.removeMarker(5), fresh::load};
        for (Check.Call call : calls) {
            call.make();
            changes++;
        }
        Check.equal(8, changes, "undo: eight calls without effect");
        for (int left = 7; left >= 0; left--) {
            Check.equal(left, fresh.undo(), "undo: a call without effect is a change");
        }
        fresh.addMarker(0);
        fresh.addMarker(0);
        Check.equal(1, fresh.undo(), "undo: addMarker that answers false is a change");
        fresh.insertRest(0, 1);
        fresh.copy(0, 1);
        fresh.paste(0);
        Check.equal(3, fresh.undo(), "undo: insertRest, copy and paste are changes");
    }

    private static void undoLatestEight() {
        RailTimeline x = new RailTimeline();
        for (int length = 1; length <= 10; length++) {
            x.insertRest(0, 1);
        }
        for (int left = 7; left >= 4; left--) {
            Check.equal(left, x.undo(), "undo: of ten changes");
        }
        Check.equal(6, x.duration(), "undo: four of ten changes");
        x.pass(0, 1, 9);
        for (int left = 4; left >= 0; left--) {
            Check.equal(left, x.undo(), "undo: after a new change");
        }
        Check.equal(2, x.duration(), "undo: the latest eight changes");
        Check.raises(STATE, x::undo, "undo: a ninth change");
        Check.equal(2, x.duration(), "undo: refused");
    }

    private static void undoWithoutChanges() {
        RailTimeline x = ofBars("12");
        while (Integer.parseInt(Check.answer(x::undo)) > 0) {
            Check.equal(true, x.duration() > 0, "undo: down to the rest that was inserted first");
        }
        Check.raises(ARGUMENT, () -> x.pass(0, 0, 0), "pass 0 0 0");
        Check.raises(ARGUMENT, () -> load(x, "q"), "load q");
        Check.raises(ARGUMENT, () -> run(x, "q"), "runScript q");
        Check.raises(STATE, () -> run(x, "mark 0;mark 99"), "runScript with a failure");
        x.save();
        x.renderBars();
        x.type(' ');
        x.isConsistent();
        Check.raises(STATE, x::undo, "undo: exceptions and questions are no changes");
        RailTimeline y = ofBars("1");
        y.insertRest(0, 3);
        Check.raises(STATE, () -> run(y, "mark 0;mark 99"), "runScript with a failure");
        Check.equal(2, y.undo(), "undo: a failed script leaves the changes");
        isBars("1", y, "undo after a failed script");
    }

    private static void promise56Save() {
        RailTimeline x = ofBars("1|23");
        Check.equal(3, x.save(), "save");
        isBars("1|23", x, "save");
        x.remove(0, 3);
        Check.equal(0, x.save(), "save: again");
        x.insertRest(0, 5);
        Check.equal(0, x.restore(), "save: replaces the earlier snapshot");
        Check.equal(0, new RailTimeline().save(), "save: empty");
        RailTimeline y = ofBars("1");
        y.save();
        y.mute(0, 1);
        Check.equal(2, y.undo(), "save: is no change");
        Check.equal(1, y.undo(), "save: changes before it can be undone");
        isBars("0", y, "save and undo");
        y.restore();
        isBars("1", y, "save: undo does not touch the snapshot");
    }

    private static void promise57Restore() {
        RailTimeline x = ofBars("1|23|");
        Check.raises(STATE, x::restore, "restore: no snapshot");
        Check.equal(5, x.undo(), "restore: refused, the changes can still be undone");
        x.addMarker(3);
        x.copy(1, 3);
        x.save();
        x.pass(0, 9, 9);
        x.copy(0, 9);
        x.removeMarker(1);
        Check.equal(3, x.restore(), "restore");
        isBars("1|23|", x, "restore");
        Check.equal(2, x.clipboardLength(), "restore: the clipboard");
        Check.equal(3, x.trainCount(), "restore: the trains");
        x.paste(0);
        isBars("231|23|", x, "restore: the levels of the clipboard");
        Check.equal(0, x.undo(), "restore: only what came later can be undone");
        Check.raises(STATE, x::undo, "restore: nothing before it can be undone");
        isBars("1|23|", x, "restore, paste and undo");
        x.remove(0, 3);
        Check.equal(3, x.restore(), "restore: the snapshot is kept");
        Check.raises(STATE, x::undo, "restore: nothing to undo");
        isBars("1|23|", x, "restore twice");
    }
}
