import java.lang.reflect.Member;
import java.lang.reflect.Method;
import java.lang.reflect.Modifier;
import java.nio.file.Files;
import java.nio.file.Path;
import java.util.ArrayList;
import java.util.List;
import java.util.TreeSet;

/** Promises 55 to 57, and the public face as the document tells it. */
public final class BenchTest {
    private BenchTest() {
    }

    public static void main(String[] arguments) throws Exception {
        shares();
        sizes();
        soundness();
        changesNothing();
        face();
        Check.end("BenchTest");
    }

    private static void shares() {
        Peepholery p = Check.bench(3, 0);
        p.machine(3, 0);
        Check.due(55, "no rules", Check.ARITHMETIC, p::validShare);
        p.learn(Check.code(p, 0, "x0#1 x0#1"), Check.code(p, 0, ""), 9);
        Check.due(55, "one of one", 1f, p::validShare);
        p.learn(Check.code(p, 1, "c0 c0"), Check.code(p, 1, ""), 1);
        p.learn(Check.code(p, 1, "g0 g0"), Check.code(p, 1, ""), 1);
        p.quirk(0, 0, true);
        Check.due(55, "two of three", 2f / 3f, p::validShare);
        p.prove(0);
        Check.due(55, "one that is gone counts in all", 2f / 3f, p::validShare);
        p.quirk(1, 1, true);
        Check.due(55, "none of three", 0f, p::validShare);
    }

    private static void sizes() {
        Peepholery p = Check.bench(3, 0);
        Check.due(56, "no programs", Check.ARITHMETIC, p::meanSize);
        Check.code(p, 0, "");
        Check.due(56, "empty", 0.0, p::meanSize);
        Check.code(p, 0, "a0#1 a0#1");
        p.tell(0, 'a', 2, 1, 0, 1);
        Check.due(56, "four by two", 2.0, p::meanSize);
        int looped = Check.code(p, 0, "c0");
        p.loop(looped, 0, 1, 0);
        Check.due(56, "five by three", 5.0 / 3.0, p::meanSize);
    }

    private static void soundness() {
        Peepholery p = new Peepholery();
        Check.due(57, "empty", true, p::isSound);
        p.machine(3, 1);
        p.learn(Check.code(p, 0, "x0#1 x0#1"), Check.code(p, 0, ""), 9);
        Check.due(57, "with a rule", true, p::isSound);
        p.quirk(0, 0, true);
        Check.due(57, "an invalid rule does not count", true, p::isSound);
        Check.code(p, 0, "m0#7 S0#7");
        p.leaf('A');
        p.term('~', 0, 0);
        p.term('+', 1, 1);
        p.join(2, 0);
        Check.due(57, "with terms", true, p::isSound);
    }

    /** Exceptions leave all as it was: what can be asked is asked ahead of them and behind. */
    private static void changesNothing() {
        Peepholery p = Check.bench(2, 1);
        int code = Check.code(p, 0, "a0#1 s0#1");
        int none = Check.code(p, 0, "");
        p.learn(code, none, 1);
        p.target(code, 1);
        p.type('A');
        p.put(1);
        p.leaf('A');
        p.run(code, 1, 2, 3, true);
        String before = told(p);
        int[] odd = {-1, 5, 99, Integer.MIN_VALUE, Integer.MAX_VALUE};
        for (int o : odd) {
            refuse(p, o);
        }
        Check.due(57, "as it was", before, () -> told(p));
    }

    private static void refuse(Peepholery p, int odd) {
        List<Check.Call> calls = List.of(
            () -> p.machine(odd == 5 ? 6 : odd, 0), () -> p.quirk(0, odd, true), () -> p.tell(0, 'a', odd == 5 ? 0 : odd, 1, 0, 0),
            () -> p.allow(odd, 'a', false), () -> p.program(odd), () -> p.add(0, 'm', odd, true, 0),
            () -> p.drop(odd), () -> p.loop(0, 0, odd, 0), () -> p.unroll(0, odd), () -> p.run(0, odd, 0, 0, false),
            () -> p.word(odd), () -> p.cell(odd), () -> p.clean(odd, 1), () -> p.target(0, odd == 5 ? 0 : odd),
            () -> p.type('q'), () -> p.formula(odd), () -> p.put(odd == 5 ? 32 : odd), () -> p.table(0),
            () -> p.shortest(0, odd), () -> p.learn(0, 1, odd == 5 ? 8 : odd), () -> p.rewrite(0, odd == 5 ? 32 : odd),
            () -> p.prove(odd), () -> p.leaf('q'), () -> p.term('~', odd, 0), () -> p.join(0, odd), () -> p.law('q'));
        for (int i = 0; i < calls.size(); i++) {
            Check.Call call = calls.get(i);
            Check.due(57, "call " + i + " with " + odd + " is refused", true, () -> {
                try {
                    call.answer();
                    return false;
                } catch (RuntimeException e) {
                    return true;
                }
            });
        }
    }

    private static String told(Peepholery p) {
        StringBuilder told = new StringBuilder();
        told.append(Check.told(p, 0)).append(p.length(1)).append(p.size(0)).append(p.word(0)).append(p.word(2));
        told.append(p.cell(0)).append(p.carry()).append(p.choices(0)).append(p.generals(0)).append(p.isValid(0));
        told.append(p.classOf(0)).append(p.meanSize()).append(p.quirk(0, 0, false)).append(p.allow(0, 'm', true));
        told.append(p.type('A')).append(p.put(1)).append(p.wipe());
        p.type('A');
        p.put(1);
        return told.toString();
    }

    /** The lines of the document's face, each without spaces, against what the class has. */
    private static void face() throws Exception {
        TreeSet<String> due = new TreeSet<>();
        for (String line : Files.readAllLines(Path.of("../shared/DOC.md"))) {
            if (line.startsWith("    public ")) {
                due.add(plain(line));
            }
        }
        TreeSet<String> is = new TreeSet<>();
        for (Method method : Peepholery.class.getDeclaredMethods()) {
            if (!Modifier.isPrivate(method.getModifiers())) {
                is.add(told(method));
            }
        }
        is.add("publicPeepholery()");
        Check.due(1, "the face has 57 lines", 57, due::size);
        for (String line : due) {
            Check.due(1, "it has " + line, true, () -> is.contains(line));
        }
        for (String line : is) {
            Check.due(1, "the document has " + line, true, () -> due.contains(line));
        }
        List<Member> others = new ArrayList<>(List.of(Peepholery.class.getDeclaredFields()));
        for (Class<?> inner : Peepholery.class.getDeclaredClasses()) {
            Check.due(1, inner + " is static", true, () -> Modifier.isStatic(inner.getModifiers()));
            Check.due(1, inner + " is not public", false, () -> Modifier.isPublic(inner.getModifiers()));
        }
        for (Member other : others) {
            Check.due(1, other.getName() + " is private", true, () -> Modifier.isPrivate(other.getModifiers()));
        }
    }

    private static String plain(String line) {
        String[] parts = line.replace(";", "").trim().split(" throws ");
        parts[0] = parts[0].replaceAll("([a-z]+) [a-zA-Z]+([,)])", "$1$2");
        TreeSet<String> thrown = new TreeSet<>();
        if (parts.length > 1) {
            thrown.addAll(List.of(parts[1].split(", ")));
        }
        return parts[0].replace(" ", "") + (thrown.isEmpty() ? "" : thrown);
    }

    private static String told(Method method) {
        StringBuilder told = new StringBuilder("public").append(method.getReturnType()).append(method.getName());
        List<String> types = new ArrayList<>();
        for (Class<?> type : method.getParameterTypes()) {
            types.add(type.toString());
        }
        TreeSet<String> thrown = new TreeSet<>();
        for (Class<?> type : method.getExceptionTypes()) {
            thrown.add(type.getSimpleName());
        }
        told.append('(').append(String.join(",", types)).append(')').append(thrown.isEmpty() ? "" : thrown);
        return told.toString();
    }
}
