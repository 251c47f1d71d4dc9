import java.lang.reflect.InvocationTargetException;
import java.lang.reflect.Method;
import java.util.HashMap;
import java.util.Map;
import java.util.Random;

/**
 * Drives the program and the model by the same calls, and tells each call that they answer unlike.
 * Arguments: how many runs (or 150), and the number of the first one (or 0).
 */
public final class ModelTest {
    /** Each call with a sign for each argument, see pick; calls that are listed twice come twice as often. */
    private static final String[] CALLS = {
        "machine BC", "quirk MQb", "tell ML99Qe", "tell ML99Qe", "tell ML99Qe", "allow MLb", "allow MLb", "program M",
        "add PLdbs", "add PLdbs", "add PLdbs", "add PLdbs", "add PLdbs", "add PLdbs", "add PLdbs", "add PLdbs",
        "drop P", "loop Piid", "unroll PQ", "length P", "letterAt Pi", "restAt Pi", "run Pwwwb", "word d", "carry ",
        "cell Q", "areEqual PPl", "differsAt PPl", "liveAt Pil", "clean Pl", "size P", "cycles P", "cycles P",
        "energy P", "front Pl", "target Pl", "type f", "type f", "formula M", "put w", "table M", "wipe ",
        "fits PT", "choices T", "shortest TQ", "walk TnSs", "walk TnNs", "constantFor TL", "magic Mv", "stays P",
        "learn PPl", "generals R", "matches RPl", "matches RPl", "rewrite Pl", "isValid R", "prove R",
        "windows Mn", "leaf g", "leaf g", "term oXX", "term oXX", "term oXX", "join XX", "classOf X", "law y", "law y",
        "law y", "cost X", "best X", "shared X", "shared X", "value XBwww", "validShare ", "meanSize ", "isSound ",
    };
    private static final Map<String, Method> PROGRAM = methods(Peepholery.class);
    private static final Map<String, Method> MODEL = methods(Model.class);

    private final Random draws;
    private final Peepholery program = new Peepholery();
    private final Model model = new Model();
    private final StringBuilder told = new StringBuilder();
    private final boolean isTame;
    private int calls;
    private boolean isWrong;

    private ModelTest(int run) {
        draws = new Random(run);
        isTame = run % 4 != 0;
    }

    public static void main(String[] arguments) throws Exception {
        int runs = arguments.length > 0 ? Integer.parseInt(arguments[0]) : 150;
        int first = arguments.length > 1 ? Integer.parseInt(arguments[1]) : 0;
        Map<String, Integer> seen = new HashMap<>();
        int wrong = 0;
        for (int run = first; run < first + runs && wrong < 5; run++) {
            ModelTest test = new ModelTest(run);
            test.goOn(seen);
            if (test.isWrong) {
                wrong++;
                int from = Math.max(0, test.told.length() - 1500);
                System.out.println("run " + run + " ends so: .." + test.told.substring(from));
            }
        }
        if (arguments.length > 2) {
            seen.entrySet().stream().sorted(Map.Entry.comparingByKey()).forEach(System.out::println);
        }
        System.out.println("ModelTest: " + (wrong == 0 ? "all alike" : wrong + " runs unlike"));
        System.exit(wrong == 0 ? 0 : 1);
    }

    private static Map<String, Method> methods(Class<?> type) {
        Map<String, Method> methods = new HashMap<>();
        for (Method method : type.getDeclaredMethods()) {
            if (!java.lang.reflect.Modifier.isPrivate(method.getModifiers())) {
                methods.put(method.getName(), method);
            }
        }
        return methods;
    }

    private void goOn(Map<String, Integer> seen) throws Exception {
        int kind = draws.nextInt(6);
        int machines = 1 + draws.nextInt(4) / 3;
        for (int i = 0; i < machines; i++) {
            call(seen, "machine", 2 + draws.nextInt(draws.nextInt(3) == 0 ? 4 : 2), draws.nextInt(4) / 2);
        }
        while (calls < 500 && !isWrong) {
            if (draws.nextInt(30) == 0 && model.programs.size() < 23) {
                twins(seen);
            } else if (draws.nextInt(60) == 0) {
                formula(seen);
            } else if (draws.nextInt(60) == 0) {
                table(seen);
            } else {
                any(seen, kind);
            }
        }
    }

    private void any(Map<String, Integer> seen, int kind) throws Exception {
        int least = kind == 0 ? 0 : kind == 1 ? indexOf("leaf g") : 0;
        int most = kind == 2 ? indexOf("leaf g") : CALLS.length;
        String[] parts = CALLS[least + draws.nextInt(most - least)].split(" ", 2);
        Object[] arguments = new Object[parts[1].length()];
        for (int i = 0; i < arguments.length; i++) {
            arguments[i] = pick(parts[1].charAt(i));
        }
        call(seen, parts[0], arguments);
    }

    private static int indexOf(String call) {
        for (int i = 0; i < CALLS.length; i++) {
            if (CALLS[i].equals(call)) {
                return i;
            }
        }
        throw new AssertionError();
    }

    private Object pick(char sign) {
        boolean isOdd = draws.nextInt(isTame ? 120 : 25) == 0;
        switch (sign) {
            case 'b': return draws.nextBoolean();
            case 'L': return isOdd ? (char) draws.nextInt(128) : letter();
            case 'f': return isOdd ? (char) draws.nextInt(256) : "ABC01234569+-&|^*~".charAt(draws.nextInt(18));
            case 'g': return isOdd ? (char) draws.nextInt(256) : "ABC0012".charAt(draws.nextInt(7));
            case 'o': return isOdd ? (char) draws.nextInt(256) : "++&|^*--~".charAt(draws.nextInt(9));
            case 'y': return isOdd ? (char) draws.nextInt(256) : "czoindt".charAt(draws.nextInt(7));
            default: return isOdd ? odd() : number(sign);
        }
    }

    private char letter() {
        return "mausnoxcglrpLSmausLSml".charAt(draws.nextInt(22));
    }

    private int odd() {
        int[] odd = {-1, -2, Integer.MIN_VALUE, Integer.MAX_VALUE, 3, 4, 10, 24, 32, 33, 60, 100000};
        return odd[draws.nextInt(odd.length)];
    }

    private int number(char sign) {
        switch (sign) {
            case 'M': return draws.nextInt(Math.max(1, model.machines.size()));
            case 'P': return draws.nextInt(Math.max(1, model.programs.size()));
            case 'T': return draws.nextInt(Math.max(1, model.goals.size()));
            case 'R': return draws.nextInt(Math.max(1, model.rules.size()));
            case 'X': return draws.nextInt(Math.max(1, model.nodes.size()));
            case 'B': return 2 + draws.nextInt(4);
            case 'C': return draws.nextInt(3);
            case 'Q': return draws.nextInt(2 + draws.nextInt(3));
            case '9': return 1 + draws.nextInt(draws.nextInt(2) == 0 ? 9 : 3);
            case 'e': return draws.nextInt(draws.nextInt(2) == 0 ? 100 : 4);
            case 'd': return draws.nextInt(3);
            case 's': return draws.nextInt(draws.nextInt(4) == 0 ? 32 : 4);
            case 'w': return draws.nextInt(draws.nextInt(6) == 0 ? 32 : 4);
            case 'i': return draws.nextInt(draws.nextInt(3) == 0 ? 13 : 4);
            case 'l': return draws.nextInt(2) == 0 ? 1 << draws.nextInt(5) : draws.nextInt(32);
            case 'n': return 1 + draws.nextInt(4);
            case 'S': return 1 + draws.nextInt(200);
            case 'N': return 1 + draws.nextInt(20);
            case 'v': return 1 + draws.nextInt(31);
            default: throw new AssertionError();
        }
    }

    /** Two programs that are equal in most things, with a rule of them, and a program that the rule may match. */
    private void twins(Map<String, Integer> seen) throws Exception {
        int machine = number('M');
        int d = draws.nextInt(3);
        int e = (d + 1 + draws.nextInt(2)) % 3;
        int k = draws.nextInt(4);
        String[][] pairs = {
            {"ak sk", ""}, {"xk xk", ""}, {"mk mk", "mk"}, {"me me", "me"}, {"c c", ""}, {"g g", ""}, {"xd", "mz"},
            {"l", "ad"}, {"ad", "l"}, {"Sk Sk", "Sk"}, {"Lk Lk", "Lk"}, {"c g", "a1"}, {"ae se", ""}, {"xe xe xe", "xe"},
            {"ak a1", "a1 ak"}, {"nd", ""}, {"me ak", "me"}, {"mk ae", "me ak"}, {"pz", "mz"}, {"a1 a1", "ak"},
            {"l", "ad ad"}, {"nk", "nk mf xf"}, {"md", "mf"}, {"se ae", "se"}, {"uk", "ak"}, {"mk pe", "me pk"},
        };
        String[] pair = pairs[draws.nextInt(pairs.length)];
        int first = model.programs.size();
        for (String code : pair) {
            call(seen, "program", machine);
            write(seen, model.programs.size() - 1, code, d, e, k);
        }
        Object live = pick('l');
        call(seen, "differsAt", first, first + 1, live);
        call(seen, "front", first, live);
        if (draws.nextInt(3) > 0) {
            call(seen, "learn", first, first + 1, live);
        }
        if (draws.nextInt(2) == 0) {
            call(seen, "target", first, pick('l'));
            call(seen, "shortest", model.goals.size() - 1, draws.nextInt(3));
        }
        int matched = number('P');
        int other = draws.nextInt(3);
        write(seen, matched, pair[0], other, (other + 1 + draws.nextInt(2)) % 3, draws.nextInt(4));
        for (int i = draws.nextInt(3); i > 0; i--) {
            call(seen, "add", matched, letter(), draws.nextInt(3), draws.nextBoolean(), draws.nextInt(3));
        }
        live = draws.nextInt(2) == 0 ? live : pick('l');
        call(seen, "matches", Math.max(0, model.rules.size() - 1 - draws.nextInt(2)), matched, live);
        if (draws.nextInt(2) == 0) {
            call(seen, "rewrite", matched, live);
        }
        if (draws.nextInt(4) == 0) {
            int from = draws.nextInt(3);
            call(seen, "loop", matched, from, from + 1 + draws.nextInt(3), draws.nextInt(3));
            call(seen, "unroll", matched, draws.nextInt(5));
            call(seen, "stays", matched);
        }
    }

    private void write(Map<String, Integer> seen, int program, String code, int d, int e, int k) throws Exception {
        for (String told : code.split(" ")) {
            if (told.isEmpty()) {
                continue;
            }
            char source = told.length() > 1 ? told.charAt(1) : 'z';
            int s = source == 'd' ? d : source == 'e' ? e : source == 'k' ? k : source == '1' ? 1 : 0;
            boolean isThird = source == 'f';
            call(seen, "add", program, told.charAt(0), isThird ? 3 - d - e : d, "k1z".indexOf(source) >= 0,
                    isThird ? 3 - d - e : s);
        }
    }

    private void formula(Map<String, Integer> seen) throws Exception {
        String[] texts = {"AB+", "A2*", "A~", "A1+", "AA&", "AB-C+", "0A-", "A9+", "AB&AB^+", "AB|", "A3*1-", "A", "7",
            "AAAAAAAA++", "AAAAAAAAA", "A+", "~", "ABCABCAB+++++++", "AB~&", "AC*B-~"};
        call(seen, "wipe");
        for (char sign : texts[draws.nextInt(texts.length)].toCharArray()) {
            call(seen, "type", sign);
        }
        call(seen, "formula", pick('M'));
        call(seen, "shortest", model.goals.size() - 1, draws.nextInt(4));
    }

    private void table(Map<String, Integer> seen) throws Exception {
        int machine = number('M');
        int modulus = machine < model.machines.size() ? model.machines.get(machine).modulus : 4;
        int factor = draws.nextInt(4);
        int sum = draws.nextInt(4);
        call(seen, "wipe");
        for (int i = 0; i < modulus; i++) {
            call(seen, "put", (i * factor + sum ^ (draws.nextInt(60) == 0 ? 1 : 0)) % modulus);
        }
        call(seen, "table", machine);
        call(seen, "shortest", model.goals.size() - 1, draws.nextInt(4));
        call(seen, "constantFor", model.goals.size() - 1, letter());
    }

    private void call(Map<String, Integer> seen, String name, Object... arguments) throws Exception {
        calls++;
        if (calls > 511 || isWrong) {
            return;
        }
        Object is = answer(PROGRAM.get(name), program, arguments);
        Object due = answer(MODEL.get(name), model, arguments);
        told.append(name).append(java.util.Arrays.toString(arguments)).append(" = ").append(is);
        seen.merge(name + (due instanceof Class<?> c ? " " + c.getSimpleName() : ""), 1, Integer::sum);
        if (!is.equals(due)) {
            isWrong = true;
            told.append(", due is ").append(due);
        }
        told.append('\n');
    }

    private static Object answer(Method method, Object object, Object[] arguments) throws Exception {
        try {
            return method.invoke(object, arguments);
        } catch (InvocationTargetException e) {
            // What the library throws on a wrong index has the same class, and is no answer.
            StackTraceElement[] trace = e.getCause().getStackTrace();
            boolean isThrown = trace.length > 0 && !trace[0].getClassName().startsWith("java");
            return isThrown ? e.getCause().getClass() : e.getCause();
        }
    }
}
