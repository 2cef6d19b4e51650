import java.lang.reflect.InvocationTargetException;
import java.lang.reflect.Method;
import java.util.ArrayList;
import java.util.HashMap;
import java.util.List;
import java.util.Map;
import java.util.Set;

/**
 * A run of calls on a new object: a call on each line, and behind "=" the answer that is due.
 *
 * <pre>
 *     20 x addPerson 50 5           several times
 *     write 0 5 9 = FULL            a constant, or a number
 *     addPersons = fault 3          -100 minus 3
 *     fact 0 0 4 = 0.5*0.9          the bits of a float, made of products from the left
 *     worth 0 = 0.5*3 + 0.2*1       and of a sum of these from the left
 *     type #59 = 1                  a character by its number
 *     text 5r1;6r2                  clearText, and each character is typed
 *     persons 5r1;6r2               text, addPersons, clearText
 *     dead 0                        tellDeath 0 0, decide 0 true
 * </pre>
 *
 * <p>At each call with an answer it is looked at, too, whether the call did to the state, the
 * history, the snapshot and the text what the document says of all calls of its kind.
 */
final class Script {
    private static final int MOST_CALLS = 512;
    private static final Set<String> ACTS = Set.of("addPerson", "addPersons", "write", "check",
            "strike", "checkUrgent", "trust", "set", "tellDeath", "decide", "print", "correct",
            "restore");
    private static final Set<String> TELLS =
            Set.of("person", "fact", "worth", "urgent", "page", "source", "staleIn", "count");
    private static final Map<String, Method> FACE = new HashMap<>();

    static {
        for (Method method : LivesAhead.class.getDeclaredMethods()) {
            FACE.put(method.getName(), method);
        }
    }

    /** A call; due is null if its answer is not looked at. */
    private record Call(String line, Method method, Object[] arguments, String due) {
        long answer(LivesAhead x) {
            try {
                Object answer = method.invoke(x, arguments);
                return answer instanceof Float worth ? Float.floatToIntBits(worth)
                        : (Integer) answer;
            } catch (InvocationTargetException e) {
                throw new IllegalStateException(line + " has thrown", e.getCause());
            } catch (IllegalAccessException e) {
                throw new IllegalStateException(line, e);
            }
        }
    }

    /** What can be seen of an object: the state, those of the history, the snapshot, the text. */
    private record Look(List<String> states, String snapshot, String text) {
    }

    private final String name;
    private final List<Call> calls = new ArrayList<>();
    private final Map<Integer, Look> looks = new HashMap<>();

    Script(String name, String text) {
        this.name = name;
        for (String line : text.strip().split("\n")) {
            read(line.strip());
        }
    }

    private void read(String line) {
        if (line.matches("[0-9]+ x .*")) {
            String[] times = line.split(" x ", 2);
            for (int i = Integer.parseInt(times[0]); i > 0; i--) {
                read(times[1]);
            }
            return;
        }
        String[] sides = line.split(" = ", 2);
        String[] words = sides[0].split(" ");
        String due = sides.length == 2 ? sides[1] : null;
        switch (words[0]) {
            case "text":
                read("clearText");
                for (int i = 0; words.length > 1 && i < words[1].length(); i++) {
                    read("type #" + (int) words[1].charAt(i));
                }
                break;
            case "persons":
                read("text " + words[1]);
                read("addPersons = " + words[1].split(";").length);
                read("clearText");
                break;
            case "dead":
                read("tellDeath " + words[1] + " 0 = 0");
                read("decide " + words[1] + " true");
                break;
            default:
                calls.add(call(line, words, due));
        }
    }

    private static Call call(String line, String[] words, String due) {
        Method method = FACE.get(words[0]);
        if (method == null || method.getParameterCount() != words.length - 1) {
            throw new IllegalStateException("no such call: " + line);
        }
        Object[] arguments = new Object[words.length - 1];
        for (int i = 0; i < arguments.length; i++) {
            arguments[i] = argument(method.getParameterTypes()[i], words[i + 1]);
        }
        return new Call(line, method, arguments, due);
    }

    private static Object argument(Class<?> type, String word) {
        if (type == boolean.class) {
            return word.equals("true");
        }
        if (type == char.class) {
            return word.startsWith("#") ? (char) Integer.parseInt(word.substring(1))
                    : word.charAt(0);
        }
        return number(word);
    }

    private static int number(String word) {
        switch (word) {
            case "UNKNOWN": return LivesAhead.UNKNOWN;
            case "BAD_VALUE": return LivesAhead.BAD_VALUE;
            case "FULL": return LivesAhead.FULL;
            case "NOT_POSSIBLE": return LivesAhead.NOT_POSSIBLE;
            case "NONE": return LivesAhead.NONE;
            case "MIN": return Integer.MIN_VALUE;
            case "MAX": return Integer.MAX_VALUE;
            default: return Integer.parseInt(word);
        }
    }

    private static long due(Call call) {
        String due = call.due();
        if (due.startsWith("fault ")) {
            return -100 - Integer.parseInt(due.substring(6));
        }
        boolean isFloat = call.method().getReturnType() == float.class || due.contains(".");
        return isFloat ? Float.floatToIntBits(sum(due)) : number(due);
    }

    private static float sum(String text) {
        float sum = 0.0f;
        for (String part : text.split(" \\+ ")) {
            float product = 1.0f;
            for (String factor : part.split("\\*")) {
                product = product * Float.parseFloat(factor);
            }
            sum = sum + product;
        }
        return sum;
    }

    /** Runs it; beyond 512 calls the document promises nothing, unless it names a later call. */
    void run(boolean isLong) {
        Due.due(name + " has few calls", calls.size() <= MOST_CALLS || isLong ? 1 : 0, 1);
        LivesAhead x = new LivesAhead();
        for (int i = 0; i < calls.size(); i++) {
            Call call = calls.get(i);
            long answer = call.answer(x);
            if (call.due() != null) {
                Due.due(at(i), answer, due(call));
                lookAround(i, answer < 0 && call.method().getReturnType() == int.class);
            }
        }
    }

    private String at(int i) {
        return name + " / call " + i + ": " + calls.get(i).line();
    }

    private void lookAround(int i, boolean isRefused) {
        String method = calls.get(i).method().getName();
        Look before = look(i);
        Look after = look(i + 1);
        List<String> were = before.states();
        if (isRefused || TELLS.contains(method)) {
            Due.due(at(i) + " changes nothing", after.toString(), before.toString());
            return;
        }
        if (ACTS.contains(method)) {
            were = were.subList(0, Math.min(4, were.size()));
            Due.due(at(i) + " is one act", after.states().subList(1, after.states().size())
                    .toString(), were.toString());
        } else if (method.equals("undo")) {
            Due.due(at(i) + " brings the state before back", after.states().toString(),
                    were.subList(1, were.size()).toString());
        } else {
            Due.due(at(i) + " is no act", after.states().toString(), were.toString());
        }
        Due.due(at(i) + " and the snapshot", after.snapshot(),
                method.equals("keep") ? were.get(0) : before.snapshot());
        if (!method.equals("type") && !method.equals("clearText")) {
            Due.due(at(i) + " leaves the text", after.text(), before.text());
        }
    }

    /** An object behind the first calls; many are made, because to look changes it. */
    private LivesAhead behind(int first) {
        LivesAhead x = new LivesAhead();
        for (int i = 0; i < first; i++) {
            calls.get(i).answer(x);
        }
        return x;
    }

    private Look look(int first) {
        return looks.computeIfAbsent(first, key -> {
            List<String> states = new ArrayList<>();
            int history = behind(key).count(16);
            for (int undone = 0; undone <= history; undone++) {
                LivesAhead x = behind(key);
                for (int i = 0; i < undone; i++) {
                    x.undo();
                }
                states.add(Due.state(x) + tellers(x));
            }
            LivesAhead kept = behind(key);
            boolean isKept = kept.restore() != LivesAhead.NONE;
            String snapshot = isKept ? Due.state(kept) + tellers(kept) : "none";
            LivesAhead typed = behind(key);
            int length = typed.count(17);
            return new Look(states, snapshot, length + " " + Math.min(-99, typed.addPersons()));
        });
    }

    /** Who told the deaths that are told still: the only ones who cannot tell them now. */
    private static String tellers(LivesAhead x) {
        StringBuilder tellers = new StringBuilder();
        for (int person = 0; person < x.count(1); person++) {
            for (int source = 0; source < 6 && x.person(person, 2) == 1; source++) {
                if (x.tellDeath(person, source) == LivesAhead.NONE) {
                    tellers.append("\ntold ").append(person).append(" by ").append(source);
                } else {
                    x.undo();
                }
            }
        }
        return tellers.toString();
    }
}
