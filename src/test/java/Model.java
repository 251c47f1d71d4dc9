import java.util.ArrayList;
import java.util.HashMap;
import java.util.HashSet;
import java.util.List;
import java.util.Map;
import java.util.NoSuchElementException;
import java.util.Set;
import java.util.TreeSet;

/**
 * The document told a second time, as plainly as the Java library allows and by other ways than the
 * program takes: states are lists, renamings are tried one by one, dead instructions are sought anew
 * after each one that goes. ModelTest compares both over many runs.
 */
final class Model {
    private static final String ORDER = "mausnoxcglrpLS";
    private static final Map<String, List<int[]>> KNOWN = new HashMap<>();

    record Ins(char letter, int d, boolean isConstant, int s) {
        boolean hasSource() {
            return "cglr".indexOf(letter) < 0;
        }

        Set<Integer> names() {
            Set<Integer> names = new TreeSet<>();
            names.add(d);
            if (hasSource() && !isConstant) {
                names.add(s);
            }
            return names;
        }
    }

    static final class Mach {
        int bits;
        int cells;
        int modulus;
        int edition;
        boolean[] quirks = new boolean[2];
        Map<Character, int[]> costs = new HashMap<>();
        Set<Character> allowed = new HashSet<>();
    }

    static final class Prog {
        Mach machine;
        List<Ins> code = new ArrayList<>();
        int[] loop;

        Set<Integer> names() {
            Set<Integer> names = new TreeSet<>();
            for (Ins i : code) {
                names.addAll(i.names());
            }
            if (loop != null) {
                names.add(loop[2]);
            }
            return names;
        }

        Prog copy() {
            Prog copy = new Prog();
            copy.machine = machine;
            copy.code.addAll(code);
            copy.loop = loop;
            return copy;
        }
    }

    static final class Goal {
        Mach machine;
        Prog code;
        int live = 1;
        String text;
        List<Integer> table;
    }

    static final class Law {
        Prog first;
        Prog second;
        int live;
        int edition;
        boolean gone;
        Set<Integer> generals = new TreeSet<>();
    }

    static final class Node {
        char sign;
        int x = -1;
        int y = -1;
    }

    final List<Mach> machines = new ArrayList<>();
    final List<Prog> programs = new ArrayList<>();
    final List<Goal> goals = new ArrayList<>();
    final List<Law> rules = new ArrayList<>();
    final List<Node> nodes = new ArrayList<>();
    final List<Set<Integer>> classes = new ArrayList<>();
    final StringBuilder text = new StringBuilder();
    final List<Integer> row = new ArrayList<>();
    private int[] last;
    private int lastCells;

    // Machines.

    int machine(int bits, int cells) {
        need(bits >= 2 && bits <= 5 && cells >= 0 && cells <= 2, new IllegalArgumentException());
        need(machines.size() < 4, new IllegalStateException());
        Mach m = new Mach();
        m.bits = bits;
        m.cells = cells;
        m.modulus = (int) Math.pow(2, bits);
        for (char letter : ORDER.toCharArray()) {
            m.costs.put(letter, new int[] {1, letter == 'p' ? 3 : "LS".indexOf(letter) >= 0 ? 2 : 1, 0, 1});
            if (letter != 'L' && letter != 'S') {
                m.allowed.add(letter);
            }
        }
        machines.add(m);
        return machines.size() - 1;
    }

    int quirk(int machine, int quirk, boolean is) {
        Mach m = get(machines, machine);
        need(quirk == 0 || quirk == 1, new IllegalArgumentException());
        if (m.quirks[quirk] != is) {
            m.quirks[quirk] = is;
            m.edition++;
        }
        return m.edition;
    }

    int tell(int machine, char letter, int size, int latency, int port, int energy) {
        Mach m = get(machines, machine);
        need(m.costs.containsKey(letter) && in(size, 1, 9) && in(latency, 1, 9) && in(port, 0, 1)
                && in(energy, 0, 99), new IllegalArgumentException());
        return m.costs.put(letter, new int[] {size, latency, port, energy})[0];
    }

    int allow(int machine, char letter, boolean is) {
        Mach m = get(machines, machine);
        need(knows(m, letter), new IllegalArgumentException());
        if (is) {
            m.allowed.add(letter);
        } else {
            m.allowed.remove(letter);
        }
        return m.allowed.size();
    }

    // Programs.

    int program(int machine) {
        Mach m = get(machines, machine);
        need(programs.size() < 24, new IllegalStateException());
        Prog p = new Prog();
        p.machine = m;
        return keep(p);
    }

    int add(int program, char letter, int d, boolean isConstant, int s) {
        Prog p = get(programs, program);
        need(knows(p.machine, letter) && in(d, 0, 2), new IllegalArgumentException());
        boolean hasSource = "cglr".indexOf(letter) < 0;
        need(!hasSource || in(s, 0, isConstant ? p.machine.modulus - 1 : 2), new IllegalArgumentException());
        need(p.loop == null, new UnsupportedOperationException());
        need(p.code.size() < 12, new IllegalStateException());
        p.code.add(new Ins(letter, d, hasSource && isConstant, hasSource ? s : 0));
        return p.code.size();
    }

    int drop(int program) {
        Prog p = get(programs, program);
        need(p.loop == null, new UnsupportedOperationException());
        need(!p.code.isEmpty(), new NoSuchElementException());
        p.code.remove(p.code.size() - 1);
        return p.code.size();
    }

    int loop(int program, int from, int to, int register) {
        Prog p = get(programs, program);
        need(from >= 0 && to <= p.code.size() && from < to && in(register, 0, 2), new IllegalArgumentException());
        need(p.loop == null, new UnsupportedOperationException());
        p.loop = new int[] {from, to, register};
        return to - from;
    }

    int unroll(int program, int times) {
        Prog p = get(programs, program);
        need(in(times, 0, 4), new IllegalArgumentException());
        need(p.loop != null, new UnsupportedOperationException());
        Prog flat = new Prog();
        flat.machine = p.machine;
        flat.code.addAll(p.code.subList(0, p.loop[0]));
        for (int i = 0; i < times; i++) {
            flat.code.addAll(p.code.subList(p.loop[0], p.loop[1]));
        }
        flat.code.addAll(p.code.subList(p.loop[1], p.code.size()));
        need(flat.code.size() <= 12, new UnsupportedOperationException());
        need(programs.size() < 24, new IllegalStateException());
        return keep(flat);
    }

    int length(int program) {
        return get(programs, program).code.size();
    }

    char letterAt(int program, int index) {
        return get(get(programs, program).code, index).letter();
    }

    int restAt(int program, int index) {
        Ins i = get(get(programs, program).code, index);
        return 100 * i.d() + i.s() + (i.isConstant() ? 50 : 0);
    }

    // Runs.

    int run(int program, int a, int b, int c, boolean carry) {
        Prog p = get(programs, program);
        int top = p.machine.modulus - 1;
        need(in(a, 0, top) && in(b, 0, top) && in(c, 0, top), new IllegalArgumentException());
        last = new int[] {a, b, c, carry ? 1 : 0, 0, 0};
        lastCells = p.machine.cells;
        return runOn(p, last);
    }

    int word(int register) {
        need(in(register, 0, 2), new IndexOutOfBoundsException());
        need(last != null, new NoSuchElementException());
        return last[register];
    }

    boolean carry() {
        need(last != null, new NoSuchElementException());
        return last[3] == 1;
    }

    int cell(int cell) {
        need(last != null && in(cell, 0, lastCells - 1), new NoSuchElementException());
        return last[4 + cell];
    }

    private static int runOn(Prog p, int[] state) {
        int done = 0;
        for (int i = 0; i < p.code.size(); i++) {
            if (p.loop != null && i == p.loop[0]) {
                while (done < p.machine.modulus && state[p.loop[2]] != 0) {
                    for (int j = p.loop[0]; j < p.loop[1]; j++) {
                        step(p.machine, p.code.get(j), state);
                    }
                    done++;
                }
                if (state[p.loop[2]] != 0) {
                    return -1;
                }
                i = p.loop[1] - 1;
            } else {
                step(p.machine, p.code.get(i), state);
            }
        }
        return done;
    }

    private static void step(Mach m, Ins i, int[] t) {
        int n = m.modulus;
        int d = t[i.d()];
        int s = i.isConstant() ? i.s() : t[i.s()];
        switch (i.letter()) {
            case 'm' -> t[i.d()] = s;
            case 'a' -> {
                t[i.d()] = (d + s) % n;
                t[3] = d + s < n ? 0 : 1;
            }
            case 'u' -> {
                int sum = d + s + t[3];
                t[i.d()] = sum % n;
                t[3] = sum < n ? 0 : 1;
            }
            case 's' -> {
                t[i.d()] = Math.floorMod(d - s, n);
                t[3] = d < s ? 1 : 0;
            }
            case 'n' -> t[i.d()] = d & s;
            case 'o' -> t[i.d()] = d | s;
            case 'x' -> t[i.d()] = d ^ s;
            case 'c' -> t[i.d()] = n - 1 - d;
            case 'g' -> t[i.d()] = (n - d) % n;
            case 'l' -> {
                t[i.d()] = d * 2 % n;
                t[3] = m.quirks[1] ? t[3] : d * 2 / n;
            }
            case 'r' -> {
                t[i.d()] = d / 2;
                t[3] = m.quirks[1] ? t[3] : d % 2;
            }
            case 'p' -> t[i.d()] = d * s % n;
            case 'L' -> t[i.d()] = t[4 + s % m.cells];
            case 'S' -> t[4 + s % m.cells] = d;
            default -> throw new AssertionError();
        }
        if (m.quirks[0] && "noxc".indexOf(i.letter()) >= 0) {
            t[3] = 0;
        }
    }

    // States and equality.

    private static List<int[]> states(Mach m, Set<Integer> names) {
        int[] tops = new int[6];
        for (int i = 0; i < 3; i++) {
            tops[i] = names.contains(i) ? m.modulus : 1;
        }
        tops[3] = 2;
        for (int i = 0; i < 2; i++) {
            tops[4 + i] = i < m.cells ? m.modulus : 1;
        }
        long count = 1;
        for (int top : tops) {
            count *= top;
        }
        need(count <= 8192, new UnsupportedOperationException());
        return KNOWN.computeIfAbsent(java.util.Arrays.toString(tops), key -> listed(tops));
    }

    private static List<int[]> listed(int[] tops) {
        List<int[]> all = new ArrayList<>();
        for (int a = 0; a < tops[0]; a++) {
            for (int b = 0; b < tops[1]; b++) {
                for (int c = 0; c < tops[2]; c++) {
                    for (int f = 0; f < tops[3]; f++) {
                        for (int p = 0; p < tops[4]; p++) {
                            for (int q = 0; q < tops[5]; q++) {
                                all.add(new int[] {a, b, c, f, p, q});
                            }
                        }
                    }
                }
            }
        }
        return all;
    }

    private static Set<Integer> registersOf(int live) {
        Set<Integer> registers = new TreeSet<>();
        for (int i = 0; i < 3; i++) {
            if ((live & 1 << i) != 0) {
                registers.add(i);
            }
        }
        return registers;
    }

    private static boolean sameIn(int[] x, int[] y, int live) {
        for (int i = 0; i < 6; i++) {
            if ((live & (i < 4 ? 1 << i : 16)) != 0 && x[i] != y[i]) {
                return false;
            }
        }
        return true;
    }

    private static int firstDifference(Prog p, Prog q, int live) {
        need(p.machine == q.machine, new UnsupportedOperationException());
        Set<Integer> names = p.names();
        names.addAll(q.names());
        names.addAll(registersOf(live));
        List<int[]> all = states(p.machine, names);
        for (int i = 0; i < all.size(); i++) {
            int[] x = all.get(i).clone();
            int[] y = all.get(i).clone();
            boolean isEndless = runOn(p, x) < 0;
            if (isEndless != runOn(q, y) < 0 || !isEndless && !sameIn(x, y, live)) {
                return i;
            }
        }
        return -1;
    }

    boolean areEqual(int program, int other, int live) {
        return differsAt(program, other, live) == -1;
    }

    int differsAt(int program, int other, int live) {
        Prog p = get(programs, program);
        Prog q = get(programs, other);
        need(in(live, 0, 31), new IllegalArgumentException());
        return firstDifference(p, q, live);
    }

    // Liveness.

    private static boolean changesCarry(Mach m, char letter) {
        return "aus".indexOf(letter) >= 0 || "lr".indexOf(letter) >= 0 && !m.quirks[1]
                || "noxc".indexOf(letter) >= 0 && m.quirks[0];
    }

    private static int made(Mach m, Ins i) {
        return (i.letter() == 'S' ? 16 : 1 << i.d()) + (changesCarry(m, i.letter()) ? 8 : 0);
    }

    private static int readBits(Ins i) {
        int read = "mL".indexOf(i.letter()) < 0 ? 1 << i.d() : 0;
        if (i.hasSource() && !i.isConstant()) {
            read |= 1 << i.s();
        }
        read |= i.letter() == 'u' ? 8 : 0;
        return read | ("LS".indexOf(i.letter()) >= 0 ? 16 : 0);
    }

    private static int liveAhead(Prog p, int index, int live) {
        if (index == p.code.size()) {
            return live;
        }
        Ins i = p.code.get(index);
        int behind = liveAhead(p, index + 1, live);
        if ("mL".indexOf(i.letter()) >= 0) {
            behind &= ~(1 << i.d());
        }
        if (changesCarry(p.machine, i.letter()) && i.letter() != 'u') {
            behind &= ~8;
        }
        return behind | readBits(i);
    }

    int liveAt(int program, int index, int live) {
        Prog p = get(programs, program);
        need(in(index, 0, p.code.size()), new IndexOutOfBoundsException());
        need(in(live, 0, 31), new IllegalArgumentException());
        need(p.loop == null, new UnsupportedOperationException());
        return liveAhead(p, index, live);
    }

    int clean(int program, int live) {
        Prog p = get(programs, program);
        need(in(live, 0, 31), new IllegalArgumentException());
        need(p.loop == null, new UnsupportedOperationException());
        int taken = 0;
        for (int i = p.code.size() - 1; i >= 0; i--) {
            if ((made(p.machine, p.code.get(i)) & liveAhead(p, i + 1, live)) == 0) {
                p.code.remove(i);
                taken++;
                i = p.code.size();
            }
        }
        return taken;
    }

    // Costs.

    private static int sum(Prog p, int which) {
        int sum = 0;
        for (Ins i : p.code) {
            sum += p.machine.costs.get(i.letter())[which];
        }
        return sum;
    }

    int size(int program) {
        return sum(get(programs, program), 0);
    }

    int energy(int program) {
        return sum(get(programs, program), 3);
    }

    int cycles(int program) {
        Prog p = get(programs, program);
        need(p.loop == null, new UnsupportedOperationException());
        return cyclesOf(p);
    }

    private static int cyclesOf(Prog p) {
        int[] begins = new int[p.code.size()];
        int cycles = 0;
        for (int i = 0; i < begins.length; i++) {
            int when = i == 0 ? 0 : begins[i - 1];
            while (!canBegin(p, begins, i, when)) {
                when++;
            }
            begins[i] = when;
            cycles = Math.max(cycles, when + p.machine.costs.get(p.code.get(i).letter())[1]);
        }
        return cycles;
    }

    private static boolean canBegin(Prog p, int[] begins, int i, int when) {
        int[] costs = p.machine.costs.get(p.code.get(i).letter());
        int open = readBits(p.code.get(i));
        for (int j = i - 1; j >= 0; j--) {
            int[] ahead = p.machine.costs.get(p.code.get(j).letter());
            if (ahead[2] == costs[2] && begins[j] == when) {
                return false;
            }
            int made = made(p.machine, p.code.get(j));
            if ((made & open) != 0 && begins[j] + ahead[1] > when) {
                return false;
            }
            open &= ~made;
        }
        return true;
    }

    int front(int program, int live) {
        Prog p = get(programs, program);
        need(in(live, 0, 31), new IllegalArgumentException());
        List<int[]> costs = new ArrayList<>();
        for (Prog q : programs) {
            if (q.machine == p.machine && q.loop == null && (q == p || firstDifference(p, q, live) < 0)) {
                costs.add(new int[] {sum(q, 0), cyclesOf(q), sum(q, 3)});
            }
        }
        int front = 0;
        for (int[] x : costs) {
            boolean isBeaten = false;
            for (int[] y : costs) {
                isBeaten |= y[0] <= x[0] && y[1] <= x[1] && y[2] <= x[2]
                        && y[0] + y[1] + y[2] < x[0] + x[1] + x[2];
            }
            front += isBeaten ? 0 : 1;
        }
        return front;
    }

    // Targets.

    int target(int program, int live) {
        Prog p = get(programs, program);
        need(in(live, 1, 31), new IllegalArgumentException());
        need(p.loop == null, new UnsupportedOperationException());
        need(goals.size() < 10, new IllegalStateException());
        Goal g = new Goal();
        g.machine = p.machine;
        g.code = p.copy();
        g.live = live;
        goals.add(g);
        return goals.size() - 1;
    }

    int type(char sign) {
        need("ABC0123456789+-&|^*~".indexOf(sign) >= 0, new IllegalArgumentException());
        need(text.length() < 20, new IllegalStateException());
        text.append(sign);
        return text.length();
    }

    int formula(int machine) {
        Mach m = get(machines, machine);
        need(worth(text.toString(), new int[6], m.modulus) >= 0, new UnsupportedOperationException());
        need(goals.size() < 10, new IllegalStateException());
        Goal g = new Goal();
        g.machine = m;
        g.text = text.toString();
        text.setLength(0);
        goals.add(g);
        return goals.size() - 1;
    }

    /** The value, -1 if it cannot be worked out. */
    private static int worth(String text, int[] state, int modulus) {
        List<Integer> stack = new ArrayList<>();
        for (char sign : text.toCharArray()) {
            int n = stack.size();
            if (sign >= 'A' && sign <= 'C') {
                stack.add(state[sign - 'A']);
            } else if (Character.isDigit(sign)) {
                stack.add((sign - '0') % modulus);
            } else if (sign == '~') {
                if (n < 1) {
                    return -1;
                }
                stack.set(n - 1, modulus - 1 - stack.get(n - 1));
            } else {
                if (n < 2) {
                    return -1;
                }
                int y = stack.remove(n - 1);
                stack.set(n - 2, Math.floorMod(of(sign, stack.get(n - 2), y), modulus));
            }
            if (stack.size() > 8) {
                return -1;
            }
        }
        return stack.size() == 1 ? stack.get(0) : -1;
    }

    private static int of(char sign, int x, int y) {
        return switch (sign) {
            case '+' -> x + y;
            case '-' -> x - y;
            case '&' -> x & y;
            case '|' -> x | y;
            case '^' -> x ^ y;
            default -> x * y;
        };
    }

    int put(int number) {
        need(in(number, 0, 31), new IllegalArgumentException());
        need(row.size() < 32, new IllegalStateException());
        row.add(number);
        return row.size();
    }

    int table(int machine) {
        Mach m = get(machines, machine);
        need(row.size() == m.modulus, new UnsupportedOperationException());
        for (int number : row) {
            need(number < m.modulus, new UnsupportedOperationException());
        }
        need(goals.size() < 10, new IllegalStateException());
        Goal g = new Goal();
        g.machine = m;
        g.table = new ArrayList<>(row);
        row.clear();
        goals.add(g);
        return goals.size() - 1;
    }

    int wipe() {
        int all = text.length() + row.size();
        text.setLength(0);
        row.clear();
        return all;
    }

    private static Set<Integer> names(Goal g) {
        Set<Integer> names = registersOf(g.live);
        names.add(0);
        if (g.code != null) {
            names.addAll(g.code.names());
        }
        if (g.text != null) {
            for (char sign : "ABC".toCharArray()) {
                if (g.text.indexOf(sign) >= 0) {
                    names.add(sign - 'A');
                }
            }
        }
        return names;
    }

    private static int[] wanted(Goal g, int[] state) {
        int[] end = state.clone();
        if (g.code != null) {
            runOn(g.code, end);
        } else {
            end[0] = g.text != null ? worth(g.text, state, g.machine.modulus) : g.table.get(state[0]);
        }
        return end;
    }

    private static boolean fits(Prog p, Goal g) {
        need(p.machine == g.machine, new UnsupportedOperationException());
        Set<Integer> names = names(g);
        names.addAll(p.names());
        for (int[] state : states(g.machine, names)) {
            int[] end = state.clone();
            if (runOn(p, end) < 0 || !sameIn(end, wanted(g, state), g.live)) {
                return false;
            }
        }
        return true;
    }

    boolean fits(int program, int target) {
        return fits(get(programs, program), get(goals, target));
    }

    // Searches.

    private static List<Ins> choicesOf(Goal g) {
        Set<Integer> constants = new TreeSet<>(List.of(0, 1, g.machine.modulus - 1));
        if (g.code != null) {
            for (Ins i : g.code.code) {
                if (i.isConstant()) {
                    constants.add(i.s());
                }
            }
        }
        if (g.text != null) {
            for (char sign : g.text.toCharArray()) {
                if (Character.isDigit(sign)) {
                    constants.add((sign - '0') % g.machine.modulus);
                }
            }
        }
        List<Ins> choices = new ArrayList<>();
        for (char letter : ORDER.toCharArray()) {
            for (int d : g.machine.allowed.contains(letter) ? names(g) : Set.<Integer>of()) {
                if (!new Ins(letter, d, false, 0).hasSource()) {
                    choices.add(new Ins(letter, d, false, 0));
                    continue;
                }
                for (int s : names(g)) {
                    choices.add(new Ins(letter, d, false, s));
                }
                for (int s : constants) {
                    choices.add(new Ins(letter, d, true, s));
                }
            }
        }
        return choices;
    }

    int choices(int target) {
        return choicesOf(get(goals, target)).size();
    }

    int shortest(int target, int most) {
        Goal g = get(goals, target);
        need(in(most, 0, 3), new IllegalArgumentException());
        List<Ins> choices = choicesOf(g);
        need(Math.pow(choices.size(), most) <= 30000, new UnsupportedOperationException());
        states(g.machine, names(g));
        Prog found = null;
        for (int length = 0; length <= most && found == null; length++) {
            found = firstFit(g, choices, new ArrayList<>(), length);
        }
        need(found != null, new NoSuchElementException());
        need(programs.size() < 24, new IllegalStateException());
        return keep(found);
    }

    private static Prog firstFit(Goal g, List<Ins> choices, List<Ins> begun, int left) {
        if (left == 0) {
            Prog p = new Prog();
            p.machine = g.machine;
            p.code.addAll(begun);
            return fits(p, g) ? p : null;
        }
        for (Ins i : choices) {
            begun.add(i);
            Prog p = firstFit(g, choices, begun, left - 1);
            begun.remove(begun.size() - 1);
            if (p != null) {
                return p;
            }
        }
        return null;
    }

    int walk(int target, int length, int steps, int seed) {
        Goal g = get(goals, target);
        need(in(length, 1, 4) && in(steps, 1, 200) && in(seed, 0, 99999), new IllegalArgumentException());
        List<int[]> all = states(g.machine, names(g));
        List<Ins> choices = choicesOf(g);
        need(!choices.isEmpty(), new UnsupportedOperationException());
        all = all.subList(0, Math.min(64, all.size()));
        Prog p = new Prog();
        p.machine = g.machine;
        for (int i = 0; i < length; i++) {
            p.code.add(choices.get(0));
        }
        long[] z = {seed};
        int cost = costOf(p, g, all);
        int least = cost;
        for (int i = 0; i < steps; i++) {
            int at = draw(z) % length;
            Ins before = p.code.set(at, choices.get(draw(z) % choices.size()));
            int now = costOf(p, g, all);
            if (now <= cost || draw(z) % 100 < 10) {
                cost = now;
            } else {
                p.code.set(at, before);
            }
            least = Math.min(least, cost);
        }
        return least;
    }

    private static int draw(long[] z) {
        z[0] = (z[0] * 1103515245 + 12345) & 2147483647L;
        return (int) (z[0] >> 16);
    }

    private static int costOf(Prog p, Goal g, List<int[]> all) {
        int cost = cyclesOf(p);
        for (int[] state : all) {
            int[] end = state.clone();
            runOn(p, end);
            int[] wanted = wanted(g, state);
            for (int i = 0; i < 6; i++) {
                if ((g.live & (i < 4 ? 1 << i : 16)) != 0 && end[i] != wanted[i]) {
                    cost += 10 * (i < 3 ? Integer.bitCount(end[i] ^ wanted[i]) : 1);
                }
            }
        }
        return cost;
    }

    int constantFor(int target, char letter) {
        Goal g = get(goals, target);
        need(knows(g.machine, letter) && "cglr".indexOf(letter) < 0, new IllegalArgumentException());
        states(g.machine, names(g));
        for (int s = 0; s < g.machine.modulus; s++) {
            Prog p = new Prog();
            p.machine = g.machine;
            p.code.add(new Ins(letter, 0, true, s));
            if (fits(p, g)) {
                return s;
            }
        }
        throw new NoSuchElementException();
    }

    int magic(int machine, int divisor) {
        Mach m = get(machines, machine);
        need(in(divisor, 1, 31), new IllegalArgumentException());
        for (int shift = 0; shift <= 10; shift++) {
            for (int factor = 0; factor <= 40000; factor++) {
                boolean isRight = true;
                for (int word = 0; word < m.modulus && isRight; word++) {
                    isRight = (long) word * factor / (1L << shift) == word / divisor;
                }
                if (isRight) {
                    return 16 * factor + shift;
                }
            }
        }
        throw new NoSuchElementException();
    }

    int stays(int program) {
        Prog p = get(programs, program);
        need(p.loop != null, new UnsupportedOperationException());
        int n = p.machine.modulus;
        int staying = 63;
        for (int[] state : states(p.machine, Set.of(0, 1, 2))) {
            int[] t = state.clone();
            for (int i = p.loop[0]; i < p.loop[1]; i++) {
                step(p.machine, p.code.get(i), t);
            }
            int[] was = {state[0], state[1], state[2], (state[0] + state[1]) % n, (state[0] + state[2]) % n,
                (state[1] + state[2]) % n};
            int[] is = {t[0], t[1], t[2], (t[0] + t[1]) % n, (t[0] + t[2]) % n, (t[1] + t[2]) % n};
            for (int i = 0; i < 6; i++) {
                staying &= was[i] == is[i] ? 63 : ~(1 << i);
            }
        }
        return staying;
    }

    // Rules.

    int learn(int program, int other, int live) {
        Prog p = get(programs, program);
        Prog q = get(programs, other);
        need(in(live, 0, 31), new IllegalArgumentException());
        need(p.loop == null && q.loop == null && p.machine == q.machine && sum(q, 0) < sum(p, 0)
                && firstDifference(p, q, live) < 0, new UnsupportedOperationException());
        need(rules.size() < 12, new IllegalStateException());
        Law r = new Law();
        r.first = p.copy();
        r.second = q.copy();
        r.live = live;
        r.edition = p.machine.edition;
        for (Ins i : p.code) {
            if (i.isConstant()) {
                boolean isGeneral = true;
                for (int k = 0; k < p.machine.modulus && isGeneral; k++) {
                    isGeneral = firstDifference(with(p, i.s(), k), with(q, i.s(), k), live) < 0;
                }
                if (isGeneral) {
                    r.generals.add(i.s());
                }
            }
        }
        rules.add(r);
        return rules.size() - 1;
    }

    private static Prog with(Prog p, int constant, int instead) {
        Prog q = new Prog();
        q.machine = p.machine;
        for (Ins i : p.code) {
            q.code.add(i.isConstant() && i.s() == constant ? new Ins(i.letter(), i.d(), true, instead) : i);
        }
        return q;
    }

    int generals(int rule) {
        return get(rules, rule).generals.size();
    }

    int matches(int rule, int program, int live) {
        Law r = get(rules, rule);
        Prog p = get(programs, program);
        need(in(live, 0, 31), new IllegalArgumentException());
        need(p.loop == null && r.first.machine == p.machine, new UnsupportedOperationException());
        for (int at = 0; at <= p.code.size(); at++) {
            if (applied(r, p, at, live) != null) {
                return at;
            }
        }
        throw new NoSuchElementException();
    }

    int rewrite(int program, int live) {
        Prog p = get(programs, program);
        need(in(live, 0, 31), new IllegalArgumentException());
        need(p.loop == null, new UnsupportedOperationException());
        int times = 0;
        while (times < 50) {
            List<Ins> next = null;
            for (int i = 0; i < rules.size() && next == null; i++) {
                for (int at = 0; at <= p.code.size() && next == null; at++) {
                    next = applied(rules.get(i), p, at, live);
                }
            }
            if (next == null) {
                break;
            }
            p.code.clear();
            p.code.addAll(next);
            times++;
        }
        return times;
    }

    /** The code with the rule applied at a place, null if it does not match there. */
    private List<Ins> applied(Law r, Prog p, int at, int live) {
        int n = r.first.code.size();
        if (r.first.machine != p.machine || !stands(r) || at + n > p.code.size()) {
            return null;
        }
        for (int[] map : renamings()) {
            Map<Integer, Integer> bound = new HashMap<>();
            boolean isAlike = true;
            for (int i = 0; i < n && isAlike; i++) {
                isAlike = isAlike(r, r.first.code.get(i), p.code.get(at + i), map, bound);
            }
            if (!isAlike || !r.first.names().containsAll(r.second.names())) {
                continue;
            }
            int changed = 0;
            for (Prog q : List.of(r.first, r.second)) {
                for (Ins i : q.code) {
                    changed |= rename(made(p.machine, i), map);
                }
            }
            int kept = rename(r.live, map);
            int behind = liveAhead(p, at + n, live);
            List<Ins> next = new ArrayList<>(p.code.subList(0, at));
            for (Ins i : r.second.code) {
                int s = i.isConstant() ? bound.getOrDefault(i.s(), i.s()) : i.hasSource() ? map[i.s()] : 0;
                next.add(new Ins(i.letter(), map[i.d()], i.isConstant(), s));
            }
            next.addAll(p.code.subList(at + n, p.code.size()));
            if ((changed & behind & ~kept) == 0 && next.size() <= 12) {
                return next;
            }
        }
        return null;
    }

    private static int[][] renamings() {
        return new int[][] {{0, 1, 2}, {0, 2, 1}, {1, 0, 2}, {1, 2, 0}, {2, 0, 1}, {2, 1, 0}};
    }

    private static int rename(int bits, int[] map) {
        int renamed = bits & 24;
        for (int i = 0; i < 3; i++) {
            renamed |= (bits & 1 << i) != 0 ? 1 << map[i] : 0;
        }
        return renamed;
    }

    private static boolean isAlike(Law r, Ins told, Ins there, int[] map, Map<Integer, Integer> bound) {
        if (told.letter() != there.letter() || map[told.d()] != there.d()) {
            return false;
        }
        if (!told.hasSource()) {
            return true;
        }
        if (told.isConstant() != there.isConstant()) {
            return false;
        }
        if (!told.isConstant()) {
            return map[told.s()] == there.s();
        }
        if (!r.generals.contains(told.s())) {
            return told.s() == there.s();
        }
        bound.putIfAbsent(told.s(), there.s());
        return bound.get(told.s()) == there.s();
    }

    private static boolean stands(Law r) {
        return !r.gone && r.edition == r.first.machine.edition;
    }

    boolean isValid(int rule) {
        return stands(get(rules, rule));
    }

    boolean prove(int rule) {
        Law r = get(rules, rule);
        need(!r.gone, new UnsupportedOperationException());
        r.gone = firstDifference(r.first, r.second, r.live) >= 0;
        r.edition = r.first.machine.edition;
        return !r.gone;
    }

    int windows(int machine, int length) {
        Mach m = get(machines, machine);
        need(in(length, 1, 4), new IllegalArgumentException());
        Set<String> unlike = new HashSet<>();
        for (Prog p : programs) {
            for (int at = 0; p.machine == m && at + length <= p.code.size(); at++) {
                String least = null;
                for (int[] map : renamings()) {
                    StringBuilder told = new StringBuilder();
                    for (Ins i : p.code.subList(at, at + length)) {
                        told.append(i.letter()).append(map[i.d()]);
                        told.append(!i.hasSource() ? "." : i.isConstant() ? "#" + i.s() : "" + map[i.s()]).append(' ');
                    }
                    least = least == null || told.toString().compareTo(least) < 0 ? told.toString() : least;
                }
                unlike.add(least);
            }
        }
        return unlike.size();
    }

    // Terms.

    private static boolean isPair(char sign) {
        return "+&|^*".indexOf(sign) >= 0;
    }

    private static boolean isSingle(char sign) {
        return "-~".indexOf(sign) >= 0;
    }

    int leaf(char sign) {
        need("ABC0123456789".indexOf(sign) >= 0, new IllegalArgumentException());
        int there = termOf(sign, -1, -1);
        need(there >= 0 || nodes.size() < 60, new IllegalStateException());
        return there >= 0 ? there : grow(sign, -1, -1);
    }

    int term(char sign, int x, int y) {
        get(nodes, x);
        if (!isSingle(sign)) {
            get(nodes, y);
        }
        need(isPair(sign) || isSingle(sign), new IllegalArgumentException());
        int part = isSingle(sign) ? -1 : y;
        int there = termOf(sign, x, part);
        need(there >= 0 || nodes.size() < 60, new IllegalStateException());
        return there >= 0 ? there : grow(sign, x, part);
    }

    private int grow(char sign, int x, int y) {
        Node n = new Node();
        n.sign = sign;
        n.x = x;
        n.y = y;
        nodes.add(n);
        classes.add(new TreeSet<>(Set.of(nodes.size() - 1)));
        return nodes.size() - 1;
    }

    private Set<Integer> classOfNode(int x) {
        for (Set<Integer> c : classes) {
            if (c.contains(x)) {
                return c;
            }
        }
        return null;
    }

    private int termOf(char sign, int x, int y) {
        for (int i = 0; i < nodes.size(); i++) {
            Node n = nodes.get(i);
            if (n.sign == sign && classOfNode(n.x) == classOfNode(x) && classOfNode(n.y) == classOfNode(y)) {
                return i;
            }
        }
        return -1;
    }

    private boolean merge(int x, int y) {
        Set<Integer> one = classOfNode(x);
        Set<Integer> other = classOfNode(y);
        if (one == other) {
            return false;
        }
        one.addAll(other);
        classes.removeIf(c -> c == other);
        return true;
    }

    private void unite(int x, int y) {
        merge(x, y);
        boolean isChanging = true;
        while (isChanging) {
            isChanging = false;
            for (int i = 0; i < nodes.size(); i++) {
                for (int j = 0; j < i; j++) {
                    Node p = nodes.get(i);
                    Node q = nodes.get(j);
                    if (p.sign == q.sign && classOfNode(p.x) == classOfNode(q.x)
                            && classOfNode(p.y) == classOfNode(q.y)) {
                        isChanging |= merge(i, j);
                    }
                }
            }
        }
    }

    int join(int x, int y) {
        get(nodes, x);
        get(nodes, y);
        unite(x, y);
        return classes.size();
    }

    int classOf(int x) {
        get(nodes, x);
        return classOfNode(x).iterator().next();
    }

    private int inClass(int x, char sign) {
        for (int i : classOfNode(x)) {
            if (nodes.get(i).sign == sign) {
                return i;
            }
        }
        return -1;
    }

    int law(char law) {
        need("czoindt".indexOf(law) >= 0, new IllegalArgumentException());
        int there = nodes.size();
        for (int i = 0; i < there; i++) {
            Node n = nodes.get(i);
            boolean isAlike = isPair(n.sign) && classOfNode(n.x) == classOfNode(n.y);
            if (law == 'c' && isPair(n.sign)) {
                uniteWith(i, n.sign, n.y, n.x);
            } else if (law == 'z' && isPair(n.sign) && inClass(n.y, '0') >= 0) {
                unite(i, "+|^".indexOf(n.sign) >= 0 ? n.x : inClass(n.y, '0'));
            } else if (law == 'o' && n.sign == '*' && inClass(n.y, '1') >= 0) {
                unite(i, n.x);
            } else if (law == 'i' && isAlike && "&|".indexOf(n.sign) >= 0) {
                unite(i, n.x);
            } else if (law == 'i' && isAlike && n.sign == '^') {
                uniteWith(i, '0', -1, -1);
            } else if (law == 'n' && isSingle(n.sign) && inClass(n.x, n.sign) >= 0) {
                unite(i, nodes.get(inClass(n.x, n.sign)).x);
            } else if (law == 'd' && n.sign == '+') {
                for (int j : new ArrayList<>(classOfNode(n.y))) {
                    if (nodes.get(j).sign == '-' && classOfNode(nodes.get(j).x) == classOfNode(n.x)) {
                        uniteWith(i, '0', -1, -1);
                        break;
                    }
                }
            } else if (law == 't' && n.sign == '+' && isAlike) {
                if (termOf('2', -1, -1) < 0 && nodes.size() < 59) {
                    grow('2', -1, -1);
                }
                if (termOf('2', -1, -1) >= 0) {
                    uniteWith(i, '*', n.x, termOf('2', -1, -1));
                }
            }
        }
        return classes.size();
    }

    private void uniteWith(int i, char sign, int x, int y) {
        if (termOf(sign, x, y) < 0 && nodes.size() < 60) {
            grow(sign, x, y);
        }
        if (termOf(sign, x, y) >= 0) {
            unite(i, termOf(sign, x, y));
        }
    }

    /** The least cost of a tree for a class, as far as costs are known. */
    private long treeCost(Set<Integer> c, Map<Set<Integer>, Long> known) {
        long least = Long.MAX_VALUE / 8;
        for (int i : c) {
            Node n = nodes.get(i);
            long cost = 0;
            for (int part : new int[] {n.x, n.y}) {
                if (part >= 0) {
                    cost += known.getOrDefault(classOfNode(part), Long.MAX_VALUE / 8);
                }
            }
            least = Math.min(least, cost + (n.x >= 0 ? 1 : 0));
        }
        return least;
    }

    private Map<Set<Integer>, Long> costs() {
        Map<Set<Integer>, Long> known = new java.util.IdentityHashMap<>();
        for (int round = 0; round <= nodes.size(); round++) {
            for (Set<Integer> c : classes) {
                known.put(c, treeCost(c, known));
            }
        }
        return known;
    }

    int cost(int x) {
        get(nodes, x);
        return (int) Math.min(Integer.MAX_VALUE, costs().get(classOfNode(x)));
    }

    private int bestOf(Set<Integer> c, Map<Set<Integer>, Long> known) {
        for (int i : c) {
            Node n = nodes.get(i);
            long cost = (n.x >= 0 ? 1 + known.get(classOfNode(n.x)) : 0)
                    + (n.y >= 0 ? known.get(classOfNode(n.y)) : 0);
            if (cost == known.get(c)) {
                return i;
            }
        }
        throw new AssertionError();
    }

    int best(int x) {
        get(nodes, x);
        return bestOf(classOfNode(x), costs());
    }

    int shared(int x) {
        get(nodes, x);
        need(classes.size() <= 10, new UnsupportedOperationException());
        Map<Set<Integer>, Integer> chosen = new java.util.IdentityHashMap<>();
        return leastShared(new ArrayList<>(List.of(classOfNode(x))), chosen, new int[] {60});
    }

    /** Chooses terms for the open classes in all ways, and counts operators where nothing goes round. */
    private int leastShared(List<Set<Integer>> open, Map<Set<Integer>, Integer> chosen, int[] least) {
        int operators = 0;
        for (int i : chosen.values()) {
            operators += nodes.get(i).x >= 0 ? 1 : 0;
        }
        if (operators >= least[0]) {
            return least[0];
        }
        if (open.isEmpty()) {
            for (Set<Integer> c : chosen.keySet()) {
                if (goesRound(c, chosen, 0)) {
                    return least[0];
                }
            }
            least[0] = operators;
            return operators;
        }
        Set<Integer> c = open.get(0);
        for (int i : c) {
            List<Set<Integer>> next = new ArrayList<>(open.subList(1, open.size()));
            chosen.put(c, i);
            for (int part : new int[] {nodes.get(i).x, nodes.get(i).y}) {
                Set<Integer> needed = part < 0 ? null : classOfNode(part);
                if (needed != null && !chosen.containsKey(needed) && next.stream().noneMatch(o -> o == needed)) {
                    next.add(needed);
                }
            }
            leastShared(next, chosen, least);
            chosen.remove(c);
        }
        return least[0];
    }

    private boolean goesRound(Set<Integer> c, Map<Set<Integer>, Integer> chosen, int depth) {
        if (depth > 11) {
            return true;
        }
        Node n = nodes.get(chosen.get(c));
        return n.x >= 0 && goesRound(classOfNode(n.x), chosen, depth + 1)
                || n.y >= 0 && goesRound(classOfNode(n.y), chosen, depth + 1);
    }

    int value(int x, int bits, int a, int b, int c) {
        get(nodes, x);
        need(in(bits, 2, 5), new IllegalArgumentException());
        int top = (1 << bits) - 1;
        need(in(a, 0, top) && in(b, 0, top) && in(c, 0, top), new IllegalArgumentException());
        return worth(classOfNode(x), costs(), top + 1, new int[] {a, b, c});
    }

    private int worth(Set<Integer> c, Map<Set<Integer>, Long> known, int modulus, int[] words) {
        Node n = nodes.get(bestOf(c, known));
        if (n.sign >= 'A' && n.sign <= 'C') {
            return words[n.sign - 'A'];
        }
        if (Character.isDigit(n.sign)) {
            return (n.sign - '0') % modulus;
        }
        int x = worth(classOfNode(n.x), known, modulus, words);
        if (isSingle(n.sign)) {
            return n.sign == '~' ? modulus - 1 - x : (modulus - x) % modulus;
        }
        return Math.floorMod(of(n.sign, x, worth(classOfNode(n.y), known, modulus, words)), modulus);
    }

    // The whole bench.

    float validShare() {
        need(!rules.isEmpty(), new ArithmeticException());
        int valid = 0;
        for (Law r : rules) {
            valid += stands(r) ? 1 : 0;
        }
        return (float) valid / rules.size();
    }

    double meanSize() {
        need(!programs.isEmpty(), new ArithmeticException());
        int sum = 0;
        for (Prog p : programs) {
            sum += sum(p, 0);
        }
        return (double) sum / programs.size();
    }

    boolean isSound() {
        return true;
    }

    // What several calls need.

    private int keep(Prog p) {
        programs.add(p);
        return programs.size() - 1;
    }

    private static boolean knows(Mach m, char letter) {
        return ORDER.indexOf(letter) >= 0 && (m.cells > 0 || letter != 'L' && letter != 'S');
    }

    private static boolean in(int number, int least, int most) {
        return number >= least && number <= most;
    }

    private static <T> T get(List<T> list, int number) {
        need(in(number, 0, list.size() - 1), new IndexOutOfBoundsException());
        return list.get(number);
    }

    private static void need(boolean is, RuntimeException otherwise) {
        if (!is) {
            throw otherwise;
        }
    }
}
