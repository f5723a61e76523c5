import java.lang.reflect.InvocationTargetException;
import java.lang.reflect.Method;
import java.util.ArrayList;
import java.util.Arrays;
import java.util.HashMap;
import java.util.List;
import java.util.Map;

/**
 * Boundary cases, each under the sentence of the document that names it: a run of calls on a new object.
 *
 * <p>A call is a text: its name, its numbers, and behind " = " the answer that is due. Without one it must not be
 * refused. "suit 0>1:0=mw@1/0" and "law 30 l=1" feed the text ahead of the call, "tape .." feeds it alone;
 * "40* shoe 0 1 1 0" makes forty calls. Each run is made on the class and on the Model, and each refused call in it
 * is shown to change nothing.
 */
final class Edges {
    private static final int MOST_CALLS = 512;
    private static final Map<String, Long> WORDS = Map.of("BAD", -1L, "NOT", -2L, "FULL", -3L, "STATE", -5L,
        "MIN", (long) Integer.MIN_VALUE, "MAX", (long) Integer.MAX_VALUE, "LMIN", Long.MIN_VALUE, "LMAX", Long.MAX_VALUE);
    private static final List<Call> PROBES = probes();
    private static final Map<Class<?>, Map<String, Method>> METHODS = new HashMap<>();

    private final String name;
    private int sentences;
    private int answers;
    private int wrong;

    /** One call of the face; due is null where any answer but a refusal will do. */
    record Call(String name, long[] numbers, Long due) { }

    Edges(String name) {
        this.name = name;
    }

    /** A sentence of the document, and a run of calls that would go wrong if it were broken. */
    void edge(String sentence, String... told) {
        sentences++;
        List<Call> calls = new ArrayList<>();
        for (String one : told) {
            addCalls(calls, one);
        }
        if (calls.size() + PROBES.size() > MOST_CALLS) {
            tell(sentence, "has " + calls.size() + " calls, which are too many");
        }
        run(sentence, calls, new AlreadyJudged());
        run(sentence, calls, new Model());
        for (int i = 0; i < calls.size(); i++) {
            Long due = calls.get(i).due;
            if (due != null && isRefusal(calls.get(i).name, due) && !afterwards(calls, i).equals(afterwards(calls, i + 1))) {
                tell(sentence, told(calls.get(i)) + " changed something, though it was refused");
            }
        }
    }

    /** A run of calls that begins with some that many runs begin with. */
    void edge(String sentence, String[] ahead, String... told) {
        String[] all = Arrays.copyOf(ahead, ahead.length + told.length);
        System.arraycopy(told, 0, all, ahead.length, told.length);
        edge(sentence, all);
    }

    /** Ends the test: exit code 1 if an answer was not as due. */
    void end() {
        System.out.println(name + ": " + sentences + " sentences, " + answers + " answers, " + wrong + " not as due");
        if (wrong != 0) {
            System.exit(1);
        }
    }

    private void run(String sentence, List<Call> calls, Object on) {
        for (Call call : calls) {
            answers++;
            long got = answer(on, call);
            if (call.due == null ? got < 0 && !call.name.equals("act") : got != call.due) {
                String due = call.due == null ? "no refusal" : call.due.toString();
                tell(sentence, told(call) + " of " + on.getClass().getName() + " answered " + got + ", due is " + due);
            }
        }
    }

    private void tell(String sentence, String what) {
        wrong++;
        System.out.println(name + ", \"" + sentence + "\": " + what);
    }

    private static String told(Call call) {
        StringBuilder text = new StringBuilder(call.name + "(");
        for (int i = 0; i < call.numbers.length; i++) {
            text.append(i == 0 ? "" : ", ").append(call.numbers[i]);
        }
        return text + ")";
    }

    private static boolean isRefusal(String call, long due) {
        if (call.equals("act")) {
            return false; // An act's answer may be any int.
        }
        return due == -1 || due == -2 || due == -3 || due == -5 || due <= -11 && due >= -14
            || call.equals("element") && due == Long.MIN_VALUE;
    }

    /** What a new object answers to many questions, behind the first calls of a run. */
    private static List<Long> afterwards(List<Call> calls, int first) {
        AlreadyJudged x = new AlreadyJudged();
        for (Call call : calls.subList(0, first)) {
            answer(x, call);
        }
        List<Long> seen = new ArrayList<>();
        for (Call call : PROBES) {
            seen.add(answer(x, call));
        }
        return seen;
    }

    private static List<Call> probes() {
        List<Call> calls = new ArrayList<>();
        String[] told = {"ofShoe 0 3", "ofShoe 1 3", "ofShoe 39 3", "ofClaim 0 0", "ofClaim 1 2", "ofClaim 31 0", "left 500 -1",
            "left 99990 -1", "ring 1", "clash -1", "order 500 0", "order 500 1", "bound 1 9999 0 0", "met 0 -1 500",
            "point 3 1 500 0"};
        for (int i = 0; i <= 6; i++) {
            addCalls(calls, "count " + i);
        }
        for (String one : told) {
            addCalls(calls, one);
        }
        for (int suit : new int[] {0, 1, 39}) {
            for (int what = 0; what <= 11; what++) {
                addCalls(calls, "ofSuit " + suit + " " + what);
            }
        }
        for (int place = 0; place < 6; place++) {
            addCalls(calls, "taken " + place + " 0");
            for (int i : new int[] {0, 1, 2, 4, 59}) {
                addCalls(calls, "element " + place + " " + i);
            }
        }
        for (int i = 0; i < 4; i++) {
            addCalls(calls, "trace " + i);
        }
        // THE TAPE can only be seen by using it up; changes only by undoing them.
        String[] last = {"law 0", "left 500 -1", "redo", "undo", "ofShoe 0 3", "ofSuit 0 3", "ofSuit 0 6", "undo", "undo", "redo",
            "redo", "redo", "ofShoe 0 3", "ofSuit 0 3", "ofSuit 0 6"};
        for (String one : last) {
            addCalls(calls, one);
        }
        return calls;
    }

    private static void addCalls(List<Call> calls, String told) {
        String text = told;
        int times = 1;
        int star = text.indexOf("* ");
        if (star > 0 && text.substring(0, star).matches("\\d+")) {
            times = Integer.parseInt(text.substring(0, star));
            text = text.substring(star + 2);
        }
        int mark = text.lastIndexOf(" = ");
        Long due = mark < 0 ? null : number(text.substring(mark + 3));
        text = mark < 0 ? text : text.substring(0, mark);
        for (int i = 0; i < times; i++) {
            addCall(calls, text, due);
        }
    }

    private static void addCall(List<Call> calls, String text, Long due) {
        if (text.startsWith("tape ") || text.startsWith("suit ")) {
            feed(calls, text.substring(5));
        } else if (text.matches("(?s)law -?\\d+ .+")) {
            feed(calls, text.substring(text.indexOf(' ', 4) + 1));
        }
        String[] words = text.split(" ");
        if (words[0].equals("tape")) {
            return;
        }
        int size = words[0].equals("suit") ? 0 : words[0].equals("law") ? 1 : words.length - 1;
        long[] numbers = new long[size];
        for (int i = 0; i < size; i++) {
            numbers[i] = number(words[i + 1]);
        }
        calls.add(new Call(words[0], numbers, due));
    }

    private static void feed(List<Call> calls, String text) {
        for (int i = 0; i < text.length(); i += 4) {
            int n = Math.min(4, text.length() - i);
            long v = 0;
            for (int k = 0; k < n; k++) {
                v |= (long) (text.charAt(i + k) & 255) << 8 * k;
            }
            calls.add(new Call("feed", new long[] {n, (int) v}, null));
        }
    }

    private static long number(String word) {
        return WORDS.containsKey(word) ? WORDS.get(word) : Long.decode(word);
    }

    /** The answer of the class, or of its Model, to one call. */
    static long answer(Object on, Call call) {
        Method m = METHODS.computeIfAbsent(on.getClass(), Edges::methodsOf).get(call.name + call.numbers.length);
        if (m == null) {
            throw new IllegalArgumentException("no such call: " + told(call));
        }
        Object[] numbers = new Object[call.numbers.length];
        for (int i = 0; i < numbers.length; i++) {
            if (m.getParameterTypes()[i] == long.class) {
                numbers[i] = call.numbers[i];
            } else {
                numbers[i] = (int) call.numbers[i];
            }
        }
        try {
            return ((Number) m.invoke(on, numbers)).longValue();
        } catch (InvocationTargetException e) {
            throw new IllegalStateException(told(call) + " threw", e.getCause());
        } catch (IllegalAccessException e) {
            throw new IllegalStateException(e);
        }
    }

    private static Map<String, Method> methodsOf(Class<?> owner) {
        Map<String, Method> methods = new HashMap<>();
        for (Method m : AlreadyJudged.class.getDeclaredMethods()) {
            if (java.lang.reflect.Modifier.isPublic(m.getModifiers())) {
                try {
                    methods.put(m.getName() + m.getParameterCount(), owner.getDeclaredMethod(m.getName(), m.getParameterTypes()));
                } catch (NoSuchMethodException e) {
                    throw new IllegalStateException(e);
                }
            }
        }
        return methods;
    }
}
