import java.lang.reflect.InvocationTargetException;
import java.lang.reflect.Method;
import java.lang.reflect.Modifier;
import java.util.Arrays;
import java.util.List;
import java.util.Map;
import java.util.TreeMap;

/** A RailTimeline that is called by the names of its methods, and at most 512 times. */
final class Caller {
    private static final int MOST_CALLS = 512;
    private static final Map<String, Method> METHODS = methods();

    private final RailTimeline timeline = new RailTimeline();
    private int calls;

    private static Map<String, Method> methods() {
        Map<String, Method> methods = new TreeMap<>();
        for (Method method : RailTimeline.class.getDeclaredMethods()) {
            if (Modifier.isPublic(method.getModifiers())) {
                methods.put(method.getName(), method);
            }
        }
        return methods;
    }

    /** The answer as a text, or "!" and the name of the exception without the word Exception. */
    String call(String name, List<String> arguments) {
        countCall();
        Method method = METHODS.get(name);
        if (method == null) {
            throw new IllegalStateException("the class has no method " + name);
        }
        try {
            return String.valueOf(method.invoke(timeline, values(method, arguments)));
        } catch (InvocationTargetException e) {
            return "!" + e.getCause().getClass().getSimpleName().replaceAll("Exception$", "");
        } catch (IllegalAccessException e) {
            throw new IllegalStateException(e);
        }
    }

    String call(String name, int... arguments) {
        return call(name, Arrays.stream(arguments).mapToObj(String::valueOf).toList());
    }

    private void countCall() {
        calls++;
        if (calls > MOST_CALLS) {
            throw new IllegalStateException("nothing is promised after the call " + MOST_CALLS + " of an object");
        }
    }

    private static Object[] values(Method method, List<String> arguments) {
        Object[] values = new Object[arguments.size()];
        for (int index = 0; index < values.length; index++) {
            int number = number(arguments.get(index));
            if (method.getParameterTypes()[index] == char.class) {
                values[index] = (char) number;
            } else {
                values[index] = number;
            }
        }
        return values;
    }

    private static int number(String argument) {
        return switch (argument) {
            case "min" -> Integer.MIN_VALUE;
            case "max" -> Integer.MAX_VALUE;
            default -> Integer.parseInt(argument);
        };
    }

    // ---- several calls told as one ----

    /** Types a text; the answer is that of the last character, or of the first that is refused. */
    String typeText(String text) {
        String answer = "";
        for (int index = 0; index < text.length() && !answer.startsWith("!"); index++) {
            answer = call("type", text.charAt(index));
        }
        return answer;
    }

    /** Types a text and reads it by load or runScript. */
    String read(String method, String text) {
        String answer = typeText(text);
        return answer.startsWith("!") ? "type refused: " + answer : call(method);
    }

    /** The answer of a question, once a text has been refused by load or runScript as is due. */
    String afterRefusal(String method, String text, String dueRefusal, String question) {
        String answer = read(method, text);
        return answer.equals(dueRefusal) ? call(question) : method + " answered " + answer;
    }

    /** The output text after a call of renderBars or renderNotation, whose answer must be its length. */
    String rendered(String method) {
        int length = Integer.parseInt(call(method));
        String text = output(length);
        String behind = call("outputAt", length);
        return behind.equals("!IndexOutOfBounds") ? text : text + ", and behind it " + behind;
    }

    /** The first characters of the output text. */
    String output(int most) {
        StringBuilder text = new StringBuilder();
        for (int index = 0; index < most; index++) {
            String character = call("outputAt", index);
            if (character.startsWith("!") && character.length() > 1) {
                break;
            }
            text.append(character);
        }
        return text.toString();
    }

    /** The times of all markers, with a space between two. */
    String markers() {
        StringBuilder times = new StringBuilder();
        int count = Integer.parseInt(call("markerCount"));
        for (int marker = 0; marker < count; marker++) {
            times.append(marker == 0 ? "" : " ").append(call("markerTime", marker));
        }
        String behind = call("markerTime", count);
        return behind.equals("!IndexOutOfBounds") ? times.toString() : times + ", and behind them " + behind;
    }

    /** Makes the empty timeline one with the levels and markers of a text such as "0033|3|". */
    void makeLine(String bars) {
        String levels = bars.replace("|", "");
        for (int time = 0; time < levels.length(); time += 50) {
            call("insertRest", time, Math.min(50, levels.length() - time));
        }
        for (int time = 0; time < levels.length(); time++) {
            if (levels.charAt(time) != '0') {
                call("pass", time, 1, levels.charAt(time) - '0');
            }
        }
        int time = 0;
        for (char sign : bars.toCharArray()) {
            if (sign == '|') {
                call("addMarker", time);
            } else {
                time++;
            }
        }
    }
}
