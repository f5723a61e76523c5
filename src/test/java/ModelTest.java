import java.lang.reflect.InvocationTargetException;
import java.lang.reflect.Method;
import java.util.ArrayList;
import java.util.Arrays;
import java.util.List;
import java.util.Random;

/** Long runs of calls on the class and on its Model side by side: every answer must be alike. */
public final class ModelTest {
    private static final int RUNS = 100;
    private static final int CALLS = 512;
    private static final String[] NAMES = "kwdlhascrfn".split("");

    private final Random random;
    private final int people;
    private final int days;
    private final List<String> told = new ArrayList<>();
    private final AlreadyJudged x = new AlreadyJudged();
    private final Model model = new Model();
    private int wrong;

    private ModelTest(long seed) {
        random = new Random(seed);
        people = 2 + random.nextInt(random.nextInt(4) == 0 ? 19 : 5);
        days = random.nextInt(3) == 0 ? 10000 : 3 + random.nextInt(60);
    }

    public static void main(String[] args) throws ReflectiveOperationException {
        int runs = args.length > 0 ? Integer.parseInt(args[0]) : RUNS;
        int from = args.length > 1 ? Integer.parseInt(args[1]) : 0;
        for (int seed = from; seed < from + runs; seed++) {
            ModelTest test = new ModelTest(seed);
            test.run();
            if (test.wrong > 0) {
                System.out.println("run " + seed + ":");
                test.told.forEach(System.out::println);
                System.exit(1);
            }
        }
        System.out.println("ModelTest: " + runs + " runs are alike");
    }

    private void run() throws ReflectiveOperationException {
        Method[] methods = AlreadyJudged.class.getDeclaredMethods();
        List<Method> face = new ArrayList<>();
        for (Method m : methods) {
            if (java.lang.reflect.Modifier.isPublic(m.getModifiers())) {
                face.add(m);
            }
        }
        face.sort((a, b) -> a.getName().compareTo(b.getName()));
        while (told.size() < CALLS && wrong == 0) {
            int pick = random.nextInt(100);
            if (pick < 14) {
                feed(suitText());
                call(method("suit"));
            } else if (pick < 20) {
                feed(lawText());
                call(method("law"), 10 * random.nextInt(4) + (random.nextBoolean() ? 0 : number(8)));
            } else if (pick < 30) {
                call(method("shoe"), person(), person(), 1 + number(5), day());
            } else if (pick < 40) {
                call(method("claim"), pq(), number(4), number(3));
            } else if (pick < 46) {
                call(method("wish"), claimNumber(), number(2));
            } else if (pick < 48) {
                shoesFromARow();
            } else if (pick < 49 && random.nextInt(6) == 0) {
                heedsOfAllLands();
            } else {
                Method m = face.get(random.nextInt(face.size()));
                boolean rare = m.getName().equals("feed") || m.getName().equals("unwish");
                if (!rare || random.nextInt(8) == 0) {
                    call(m, argumentsOf(m));
                }
            }
        }
    }

    private void shoesFromARow() throws ReflectiveOperationException {
        int place = random.nextInt(6);
        int size = random.nextInt(14);
        call(method("row"), place, 1, size);
        int[] four = {person(), person(), 1 + number(5), day()};
        for (int i = 0; i < size; i++) {
            four[i % 4] = i % 4 < 2 ? person() : four[i % 4];
            call(method("put"), place, i, (long) four[i % 4]);
        }
        call(method("shoes"), place, 4 * random.nextInt(2), 1 + number(4));
    }

    private void heedsOfAllLands() throws ReflectiveOperationException {
        int rings = random.nextInt(4);
        for (int land = 0; land < 8; land++) {
            int next = rings == 0 ? random.nextInt(8) : (land + rings) % 8;
            feed("l=" + next + (random.nextInt(5) == 0 ? "|l=" + random.nextInt(8) : ""));
            call(method("law"), 30 + land);
        }
        call(method("ring"), 0);
        call(method("ring"), 1);
    }

    private static Method method(String name) {
        return Arrays.stream(AlreadyJudged.class.getDeclaredMethods()).filter(m -> m.getName().equals(name)).findFirst().get();
    }

    private void call(Method m, Object... arguments) throws ReflectiveOperationException {
        if (told.size() >= CALLS) {
            return;
        }
        long got = answer(m, x, arguments);
        long want = answer(Model.class.getDeclaredMethod(m.getName(), m.getParameterTypes()), model, arguments);
        told.add(m.getName() + Arrays.toString(arguments) + " " + got);
        if (got != want) {
            wrong++;
            told.add("due is " + want);
        }
    }

    private static long answer(Method m, Object on, Object[] arguments) throws ReflectiveOperationException {
        try {
            return ((Number) m.invoke(on, arguments)).longValue();
        } catch (InvocationTargetException e) {
            throw new IllegalStateException(m.getName() + Arrays.toString(arguments), e.getCause());
        }
    }

    private void feed(String text) throws ReflectiveOperationException {
        for (int i = 0; i < text.length(); i += 4) {
            int n = Math.min(4, text.length() - i);
            int v = random.nextInt();
            for (int k = 0; k < n; k++) {
                v = v & ~(255 << 8 * k) | text.charAt(i + k) << 8 * k;
            }
            call(method("feed"), n, v);
        }
    }

    // ---- arguments that are mostly right

    private int number(int below) {
        int odd = random.nextInt(60);
        return odd == 0 ? -1 - random.nextInt(3) : odd == 1 ? below + random.nextInt(3) : odd == 2 ? random.nextInt()
            : below <= 0 ? 0 : random.nextInt(below);
    }

    private int person() {
        return random.nextInt(50) == 0 ? number(20) : random.nextInt(people);
    }

    private int day() {
        return number(days);
    }

    private int land() {
        return random.nextInt(3) > 0 ? 0 : number(8);
    }

    private int pq() {
        return random.nextInt(60) == 0 ? number(2000) : 100 * random.nextInt(people) + random.nextInt(people);
    }

    private int dl() {
        return random.nextInt(60) == 0 ? number(100000) : 10 * random.nextInt(days + 3 > 10000 ? 10000 : days + 3) + land();
    }

    private int suitNumber() {
        return number(model.cases.size());
    }

    private int claimNumber() {
        return number(model.claims.size());
    }

    private int index(int most) {
        return random.nextBoolean() ? -1 : number(most);
    }

    private int people() {
        int bits = 0;
        int size = 1 + random.nextInt(8);
        for (int i = 0; i < size; i++) {
            bits |= 1 << random.nextInt(people);
        }
        return random.nextInt(30) == 0 ? random.nextInt() : bits;
    }

    private Object[] argumentsOf(Method m) {
        int what = number(2);
        switch (m.getName()) {
            case "shoe": return new Object[] {person(), person(), number(6), day()};
            case "shoes": return new Object[] {number(6), number(8), number(16)};
            case "ofShoe": return new Object[] {number(model.shoes.size()), number(4)};
            case "moveShoe": return new Object[] {number(model.shoes.size()), day()};
            case "bound": return new Object[] {pq(), day(), land(), what};
            case "claim": return new Object[] {pq(), number(16), number(4)};
            case "ofClaim": return new Object[] {claimNumber(), number(4)};
            case "feed": return new Object[] {number(5), random.nextInt()};
            case "ofSuit": return new Object[] {suitNumber(), number(82)};
            case "won": return new Object[] {suitNumber(), what};
            case "undone": return new Object[] {suitNumber(), day()};
            case "law": return new Object[] {number(40)};
            case "counts": return new Object[] {suitNumber(), day(), number(8)};
            case "met":
            case "hangs": return new Object[] {claimNumber(), random.nextBoolean() ? -1 : pq(), dl()};
            case "point": return new Object[] {number(4), pq(), dl(), what};
            case "need": return new Object[] {number(4), pq(), dl()};
            case "left": return new Object[] {dl(), index(5)};
            case "lost": return new Object[] {suitNumber(), index(4)};
            case "opens": return new Object[] {suitNumber(), dl()};
            case "clash": return new Object[] {index(5)};
            case "wish": return new Object[] {claimNumber(), what};
            case "order": return new Object[] {dl(), what};
            case "joined": return new Object[] {suitNumber(), people(), what};
            case "ring": return new Object[] {what};
            case "act": return new Object[] {suitNumber(), number(4), random.nextInt()};
            case "trace": return new Object[] {number(8)};
            case "keep": return new Object[] {number(6), random.nextInt(4) == 0 ? -1 : suitNumber()};
            case "row": return new Object[] {number(6), number(5), number(61)};
            case "put": return new Object[] {number(6), number(20), random.nextBoolean() ? random.nextInt(6) : random.nextLong()};
            case "element": return new Object[] {number(6), number(20)};
            case "shift": return new Object[] {number(6), number(8), number(6), number(8), number(8)};
            case "taken": return new Object[] {number(6), number(7)};
            case "count": return new Object[] {number(7)};
            default: return new Object[0];
        }
    }

    // ---- texts that are mostly right

    private String suitText() {
        StringBuilder text = new StringBuilder();
        text.append(person()).append('>').append(person()).append(':').append(claimNumber());
        int claims = 1;
        while (random.nextInt(3) == 0) {
            text.append(',').append(claimNumber());
            claims++;
        }
        int points = random.nextInt(4);
        for (int i = 0; i < points; i++) {
            text.append(';').append((2 * i + random.nextInt(2)) % 4).append(random.nextBoolean() ? '+' : '-');
            text.append(random.nextInt(4) > 0 ? "f" : "").append(random.nextInt(4) > 0 ? "n" : "");
        }
        String[] endings = {"m", "m", "f", "a", "d", "p" + (1 + random.nextInt(claims))};
        text.append('=').append(endings[random.nextInt(6)]).append(random.nextBoolean() ? 'w' : 'l');
        text.append('@').append(random.nextInt(days)).append('/').append(random.nextBoolean() ? 0 : random.nextInt(8));
        return mutated(text, "0123456789>:,;+-fn=madpwl@/ ");
    }

    private String lawText() {
        StringBuilder text = new StringBuilder();
        do {
            text.append(text.length() > 0 ? ";" : "").append(expression(0, 0));
            if (random.nextInt(4) == 0) {
                text.append('?').append(expression(0, 0));
            }
        } while (random.nextInt(3) == 0);
        if (text.length() > 100) {
            text.setLength(100);
        }
        return mutated(text, "0123456789kwdlhascrfn()!-+*/%<=>&|?; x");
    }

    private String expression(int level, int depth) {
        if (level == 5) {
            return operand(depth);
        }
        String[] signs = {"|", "&", "<=>", "+-", "*/%"};
        String text = expression(level + 1, depth);
        if (random.nextInt(3 + depth) == 0) {
            text += signs[level].charAt(random.nextInt(signs[level].length())) + expression(level + 1, depth);
        }
        return text;
    }

    private String operand(int depth) {
        switch (random.nextInt(10)) {
            case 0: return "!" + operand(depth + 1);
            case 1: return "-" + operand(depth + 1);
            case 2: return depth > 3 ? "1" : "(" + expression(0, depth + 1) + ")";
            case 3:
            case 4: return String.valueOf(random.nextInt(random.nextBoolean() ? 7 : 60));
            default: return NAMES[random.nextInt(NAMES.length)];
        }
    }

    private String mutated(StringBuilder text, String signs) {
        if (random.nextInt(5) == 0) {
            int at = random.nextInt(text.length());
            char sign = random.nextInt(20) == 0 ? (char) random.nextInt(256) : signs.charAt(random.nextInt(signs.length()));
            switch (random.nextInt(4)) {
                case 0: text.setLength(at); break;
                case 1: text.setCharAt(at, sign); break;
                case 2: text.insert(at, sign); break;
                default: text.deleteCharAt(at); break;
            }
        }
        return text.toString();
    }
}
