import java.util.ArrayList;
import java.util.Arrays;
import java.util.List;
import java.util.NoSuchElementException;

/** A bench that seeks the shortest way to say it; the project's document tells what each call does. */
public final class Peepholery {
    private static final int MOST_MACHINES = 4;
    private static final int MOST_PROGRAMS = 24;
    private static final int MOST_TARGETS = 10;
    private static final int MOST_RULES = 12;
    private static final int MOST_REWRITES = 50;
    private static final int MOST_SHIFT = 10;
    private static final int MOST_WINDOW = 4;
    private static final long MOST_COST = 2147483647L;

    private final List<Machine> machines = new ArrayList<Machine>();
    private final List<Program> programs = new ArrayList<Program>();
    private final List<Target> targets = new ArrayList<Target>();
    private final List<Rule> rules = new ArrayList<Rule>();
    private final Terms terms = new Terms();
    private final Bench bench = new Bench();
    private final Search search = new Search();
    private final Rewriter rewriter = new Rewriter();
    private final char[] text = new char[Target.MOST_SIGNS];
    private final int[] row = new int[Target.MOST_NUMBERS];
    private final long[] seen = new long[MOST_PROGRAMS * Code.MOST];
    private final State last = new State();
    private int signs;
    private int numbers;
    private int lastCells;
    private boolean hasRun;

    public Peepholery() {
    }

    // Machines.

    public int machine(int bits, int cells) throws IllegalArgumentException, IllegalStateException {
        if (bits < 2 || bits > 5 || cells < 0 || cells > 2) {
            throw new IllegalArgumentException();
        }
        if (machines.size() >= MOST_MACHINES) {
            throw new IllegalStateException();
        }
        machines.add(new Machine(bits, cells));
        return machines.size() - 1;
    }

    public int quirk(int machine, int quirk, boolean is)
            throws IndexOutOfBoundsException, IllegalArgumentException {
        Machine told = machineOf(machine);
        if (quirk < 0 || quirk > 1) {
            throw new IllegalArgumentException();
        }
        told.takeQuirk(quirk, is);
        return told.edition;
    }

    public int tell(int machine, char letter, int size, int latency, int port, int energy)
            throws IndexOutOfBoundsException, IllegalArgumentException {
        Machine told = machineOf(machine);
        int number = Instruction.numberOf(letter);
        if (number < 0 || size < 1 || size > 9 || latency < 1 || latency > 9) {
            throw new IllegalArgumentException();
        }
        if (port < 0 || port > 1 || energy < 0 || energy > 99) {
            throw new IllegalArgumentException();
        }
        int before = told.sizeOf(number);
        told.takeCosts(number, size, latency, port, energy);
        return before;
    }

    public int allow(int machine, char letter, boolean is)
            throws IndexOutOfBoundsException, IllegalArgumentException {
        Machine told = machineOf(machine);
        int number = Instruction.numberOf(letter);
        if (!told.knows(number)) {
            throw new IllegalArgumentException();
        }
        told.takeAllowance(number, is);
        return Integer.bitCount(told.allowed);
    }

    // Programs.

    public int program(int machine) throws IndexOutOfBoundsException, IllegalStateException {
        Machine home = machineOf(machine);
        if (programs.size() >= MOST_PROGRAMS) {
            throw new IllegalStateException();
        }
        return keepProgram(new Program(home));
    }

    public int add(int program, char letter, int d, boolean isConstant, int s)
            throws IndexOutOfBoundsException, IllegalArgumentException,
            UnsupportedOperationException, IllegalStateException {
        Program made = programOf(program);
        int number = Instruction.numberOf(letter);
        if (!made.machine.knows(number) || d < 0 || d > 2) {
            throw new IllegalArgumentException();
        }
        if (Instruction.hasSource(number) && !made.machine.isSource(isConstant, s)) {
            throw new IllegalArgumentException();
        }
        if (made.code.hasLoop) {
            throw new UnsupportedOperationException();
        }
        if (made.code.count >= Code.MOST) {
            throw new IllegalStateException();
        }
        made.code.append(Instruction.packed(number, d, isConstant, s));
        return made.code.count;
    }

    public int drop(int program)
            throws IndexOutOfBoundsException, UnsupportedOperationException, NoSuchElementException {
        Code code = straightCodeOf(programOf(program));
        if (code.count == 0) {
            throw new NoSuchElementException();
        }
        code.removeAt(code.count - 1);
        return code.count;
    }

    public int loop(int program, int from, int to, int register)
            throws IndexOutOfBoundsException, IllegalArgumentException, UnsupportedOperationException {
        Program looped = programOf(program);
        if (from < 0 || to > looped.code.count || from >= to || register < 0 || register > 2) {
            throw new IllegalArgumentException();
        }
        straightCodeOf(looped).takeLoop(from, to, register);
        return to - from;
    }

    public int unroll(int program, int times)
            throws IndexOutOfBoundsException, IllegalArgumentException,
            UnsupportedOperationException, IllegalStateException {
        Program looped = programOf(program);
        if (times < 0 || times > 4) {
            throw new IllegalArgumentException();
        }
        int part = looped.code.to - looped.code.from;
        if (!looped.code.hasLoop || looped.code.count + part * (times - 1) > Code.MOST) {
            throw new UnsupportedOperationException();
        }
        if (programs.size() >= MOST_PROGRAMS) {
            throw new IllegalStateException();
        }
        Program flat = new Program(looped.machine);
        flat.code.takeUnrolled(looped.code, times);
        return keepProgram(flat);
    }

    public int length(int program) throws IndexOutOfBoundsException {
        return programOf(program).code.count;
    }

    public char letterAt(int program, int index) throws IndexOutOfBoundsException {
        int number = Instruction.letterOf(instructionOf(program, index));
        return number < Instruction.NAMES.length() ? Instruction.NAMES.charAt(number) : ' ';
    }

    public int restAt(int program, int index) throws IndexOutOfBoundsException {
        int instruction = instructionOf(program, index);
        int kind = Instruction.isConstant(instruction) ? 50 : 0;
        return 100 * Instruction.registerOf(instruction) + kind + Instruction.sourceOf(instruction);
    }

    // Runs.

    public int run(int program, int a, int b, int c, boolean carry)
            throws IndexOutOfBoundsException, IllegalArgumentException {
        Program ran = programOf(program);
        if (!ran.machine.isWord(a) || !ran.machine.isWord(b) || !ran.machine.isWord(c)) {
            throw new IllegalArgumentException();
        }
        last.begin(a, b, c, carry);
        lastCells = ran.machine.cells;
        hasRun = true;
        return ran.code.runOn(ran.machine, last);
    }

    public int word(int register) throws IndexOutOfBoundsException, NoSuchElementException {
        if (register < 0 || register > 2) {
            throw new IndexOutOfBoundsException();
        }
        if (!hasRun) {
            throw new NoSuchElementException();
        }
        return numberAt(last.words, register);
    }

    public boolean carry() throws NoSuchElementException {
        if (!hasRun) {
            throw new NoSuchElementException();
        }
        return last.carry == 1;
    }

    public int cell(int cell) throws NoSuchElementException {
        if (!hasRun || cell < 0 || cell >= lastCells) {
            throw new NoSuchElementException();
        }
        return numberAt(last.cells, cell);
    }

    // Equality and liveness.

    public boolean areEqual(int program, int other, int live)
            throws IndexOutOfBoundsException, IllegalArgumentException, UnsupportedOperationException {
        return firstDifference(program, other, live) < 0;
    }

    public int differsAt(int program, int other, int live)
            throws IndexOutOfBoundsException, IllegalArgumentException, UnsupportedOperationException {
        return firstDifference(program, other, live);
    }

    public int liveAt(int program, int index, int live)
            throws IndexOutOfBoundsException, IllegalArgumentException, UnsupportedOperationException {
        Program read = programOf(program);
        if (index < 0 || index > read.code.count) {
            throw new IndexOutOfBoundsException();
        }
        refuseUnlessLive(live);
        return straightCodeOf(read).liveAhead(read.machine, index, live);
    }

    public int clean(int program, int live)
            throws IndexOutOfBoundsException, IllegalArgumentException, UnsupportedOperationException {
        Program cleaned = programOf(program);
        refuseUnlessLive(live);
        return straightCodeOf(cleaned).takeOutDead(cleaned.machine, live);
    }

    // Costs.

    public int size(int program) throws IndexOutOfBoundsException {
        return sizeOf(programOf(program));
    }

    public int cycles(int program) throws IndexOutOfBoundsException, UnsupportedOperationException {
        Program timed = programOf(program);
        return bench.cyclesOf(timed.machine, straightCodeOf(timed));
    }

    public int energy(int program) throws IndexOutOfBoundsException {
        return energyOf(programOf(program));
    }

    public int front(int program, int live)
            throws IndexOutOfBoundsException, IllegalArgumentException, UnsupportedOperationException {
        Program first = programOf(program);
        refuseUnlessLive(live);
        int equal = first.code.hasLoop ? 0 : 1 << program;
        int named = first.code.named() | live;
        for (int i = 0; i < programs.size(); i++) {
            if (i != program && isPeer(programs.get(i), first)) {
                refuseTooManyStates(first.machine, named | programs.get(i).code.named());
            }
        }
        for (int i = 0; i < programs.size(); i++) {
            Program other = programs.get(i);
            if (i != program && isPeer(other, first)
                    && bench.firstDifference(first.machine, first.code, other.code, live) < 0) {
                equal |= 1 << i;
            }
        }
        return frontOf(equal);
    }

    // Targets.

    public int target(int program, int live)
            throws IndexOutOfBoundsException, IllegalArgumentException,
            UnsupportedOperationException, IllegalStateException {
        Program told = programOf(program);
        if (live == 0) {
            throw new IllegalArgumentException();
        }
        refuseUnlessLive(live);
        Code code = straightCodeOf(told);
        if (targets.size() >= MOST_TARGETS) {
            throw new IllegalStateException();
        }
        Target made = new Target(told.machine, Target.CODE, live);
        made.takeCode(code);
        return keepTarget(made);
    }

    public int type(char sign) throws IllegalArgumentException, IllegalStateException {
        if (Target.SIGNS.indexOf(sign) < 0) {
            throw new IllegalArgumentException();
        }
        if (signs >= text.length || signs < 0) {
            throw new IllegalStateException();
        }
        text[signs] = sign;
        signs++;
        return signs;
    }

    public int formula(int machine)
            throws IndexOutOfBoundsException, UnsupportedOperationException, IllegalStateException {
        Machine home = machineOf(machine);
        if (!Target.canBeWorkedOut(text, signs)) {
            throw new UnsupportedOperationException();
        }
        if (targets.size() >= MOST_TARGETS) {
            throw new IllegalStateException();
        }
        Target made = new Target(home, Target.FORMULA, 1);
        made.takeText(text, signs);
        signs = 0;
        return keepTarget(made);
    }

    public int put(int number) throws IllegalArgumentException, IllegalStateException {
        if (number < 0 || number > 31) {
            throw new IllegalArgumentException();
        }
        if (numbers >= row.length || numbers < 0) {
            throw new IllegalStateException();
        }
        row[numbers] = number;
        numbers++;
        return numbers;
    }

    public int table(int machine)
            throws IndexOutOfBoundsException, UnsupportedOperationException, IllegalStateException {
        Machine home = machineOf(machine);
        if (!isTableOf(home)) {
            throw new UnsupportedOperationException();
        }
        if (targets.size() >= MOST_TARGETS) {
            throw new IllegalStateException();
        }
        Target made = new Target(home, Target.TABLE, 1);
        made.takeRow(row, numbers);
        numbers = 0;
        return keepTarget(made);
    }

    public int wipe() {
        int all = signs + numbers;
        signs = 0;
        numbers = 0;
        return all;
    }

    public boolean fits(int program, int target)
            throws IndexOutOfBoundsException, UnsupportedOperationException {
        Program tried = programOf(program);
        Target told = targetOf(target);
        if (tried.machine != told.machine) {
            throw new UnsupportedOperationException();
        }
        refuseTooManyStates(told.machine, told.named | tried.code.named());
        return search.isFit(told, tried.code);
    }

    // Searches.

    public int choices(int target) throws IndexOutOfBoundsException {
        Target told = targetOf(target);
        search.choose(told);
        return search.count;
    }

    public int shortest(int target, int most)
            throws IndexOutOfBoundsException, IllegalArgumentException, UnsupportedOperationException,
            NoSuchElementException, IllegalStateException {
        Target told = targetOf(target);
        if (most < 0 || most > 3) {
            throw new IllegalArgumentException();
        }
        search.choose(told);
        if (search.programsOf(most) > Search.MOST_PROGRAMS) {
            throw new UnsupportedOperationException();
        }
        refuseTooManyStates(told.machine, told.named);
        if (!search.findShortest(told, most)) {
            throw new NoSuchElementException();
        }
        if (programs.size() >= MOST_PROGRAMS) {
            throw new IllegalStateException();
        }
        Program found = new Program(told.machine);
        found.code.takeFrom(search.tried);
        return keepProgram(found);
    }

    public int walk(int target, int length, int steps, int seed)
            throws IndexOutOfBoundsException, IllegalArgumentException, UnsupportedOperationException {
        Target told = targetOf(target);
        if (length < 1 || length > 4 || steps < 1 || steps > 200 || seed < 0 || seed > 99999) {
            throw new IllegalArgumentException();
        }
        refuseTooManyStates(told.machine, told.named);
        search.choose(told);
        if (search.count == 0) {
            throw new UnsupportedOperationException();
        }
        return search.leastCost(told, length, steps, seed);
    }

    public int constantFor(int target, char letter)
            throws IndexOutOfBoundsException, IllegalArgumentException,
            UnsupportedOperationException, NoSuchElementException {
        Target told = targetOf(target);
        int number = Instruction.numberOf(letter);
        if (!told.machine.knows(number) || !Instruction.hasSource(number)) {
            throw new IllegalArgumentException();
        }
        refuseTooManyStates(told.machine, told.named);
        int constant = search.leastConstant(told, number);
        if (constant < 0) {
            throw new NoSuchElementException();
        }
        return constant;
    }

    public int magic(int machine, int divisor)
            throws IndexOutOfBoundsException, IllegalArgumentException, NoSuchElementException {
        Machine home = machineOf(machine);
        if (divisor < 1 || divisor > 31) {
            throw new IllegalArgumentException();
        }
        for (int shift = 0; shift <= MOST_SHIFT; shift++) {
            // A greater factor than this would already make more of the word 1 than 1.
            for (int factor = 0; factor < 2 << shift; factor++) {
                if (divides(home.modulus, divisor, factor, shift)) {
                    return 16 * factor + shift;
                }
            }
        }
        throw new NoSuchElementException();
    }

    public int stays(int program) throws IndexOutOfBoundsException, UnsupportedOperationException {
        Program looped = programOf(program);
        if (!looped.code.hasLoop) {
            throw new UnsupportedOperationException();
        }
        refuseTooManyStates(looped.machine, Bench.REGISTERS);
        return bench.stayingIn(looped.machine, looped.code);
    }

    // Rules.

    public int learn(int program, int other, int live)
            throws IndexOutOfBoundsException, IllegalArgumentException,
            UnsupportedOperationException, IllegalStateException {
        Program first = programOf(program);
        Program second = programOf(other);
        refuseUnlessLive(live);
        Code longer = straightCodeOf(first);
        Code shorter = straightCodeOf(second);
        if (first.machine != second.machine || sizeOf(second) >= sizeOf(first)) {
            throw new UnsupportedOperationException();
        }
        refuseTooManyStates(first.machine, longer.named() | shorter.named() | live);
        if (bench.firstDifference(first.machine, longer, shorter, live) >= 0) {
            throw new UnsupportedOperationException();
        }
        if (rules.size() >= MOST_RULES) {
            throw new IllegalStateException();
        }
        int generals = bench.generalsOf(first.machine, longer, shorter, live);
        Rule learned = new Rule(first.machine, live, generals);
        learned.first.takeFrom(longer);
        learned.second.takeFrom(shorter);
        rules.add(learned);
        return rules.size() - 1;
    }

    public int generals(int rule) throws IndexOutOfBoundsException {
        return Integer.bitCount(ruleOf(rule).generals);
    }

    public int matches(int rule, int program, int live)
            throws IndexOutOfBoundsException, IllegalArgumentException,
            UnsupportedOperationException, NoSuchElementException {
        Rule tried = ruleOf(rule);
        Program read = programOf(program);
        refuseUnlessLive(live);
        Code code = straightCodeOf(read);
        if (tried.machine != read.machine) {
            throw new UnsupportedOperationException();
        }
        int at = rewriter.firstMatch(tried, code, live);
        if (at < 0) {
            throw new NoSuchElementException();
        }
        return at;
    }

    public int rewrite(int program, int live)
            throws IndexOutOfBoundsException, IllegalArgumentException, UnsupportedOperationException {
        Program rewritten = programOf(program);
        refuseUnlessLive(live);
        Code code = straightCodeOf(rewritten);
        int applied = 0;
        while (applied < MOST_REWRITES && applyLowestRule(rewritten.machine, code, live)) {
            applied++;
        }
        return applied;
    }

    public boolean isValid(int rule) throws IndexOutOfBoundsException {
        return ruleOf(rule).stands();
    }

    public boolean prove(int rule) throws IndexOutOfBoundsException, UnsupportedOperationException {
        Rule proved = ruleOf(rule);
        if (proved.isGone) {
            throw new UnsupportedOperationException();
        }
        if (bench.isProved(proved)) {
            proved.edition = proved.machine.edition;
        } else {
            proved.isGone = true;
        }
        return proved.stands();
    }

    public int windows(int machine, int length)
            throws IndexOutOfBoundsException, IllegalArgumentException {
        Machine home = machineOf(machine);
        if (length < 1 || length > MOST_WINDOW) {
            throw new IllegalArgumentException();
        }
        int unlike = 0;
        for (int i = 0; i < programs.size(); i++) {
            if (programs.get(i).machine == home) {
                unlike = seeWindows(programs.get(i).code, length, unlike);
            }
        }
        return unlike;
    }

    // Terms.

    public int leaf(char sign) throws IllegalArgumentException, IllegalStateException {
        if (Terms.LEAVES.indexOf(sign) < 0) {
            throw new IllegalArgumentException();
        }
        int number = terms.termFor(sign, 0, 0);
        if (number < 0) {
            throw new IllegalStateException();
        }
        return number;
    }

    public int term(char sign, int x, int y)
            throws IndexOutOfBoundsException, IllegalArgumentException, IllegalStateException {
        boolean isSingle = Terms.isSingle(sign);
        refuseUnlessTerm(x);
        refuseUnlessTerm(isSingle ? x : y);
        if (!isSingle && !Terms.isPair(sign)) {
            throw new IllegalArgumentException();
        }
        int number = terms.termFor(sign, x, isSingle ? x : y);
        if (number < 0) {
            throw new IllegalStateException();
        }
        return number;
    }

    public int join(int x, int y) throws IndexOutOfBoundsException {
        refuseUnlessTerm(x);
        refuseUnlessTerm(y);
        terms.unite(x, y);
        return terms.classCount();
    }

    public int classOf(int x) throws IndexOutOfBoundsException {
        refuseUnlessTerm(x);
        return terms.classAt(x);
    }

    public int law(char law) throws IllegalArgumentException {
        if (Terms.LAWS.indexOf(law) < 0) {
            throw new IllegalArgumentException();
        }
        terms.goBy(law);
        return terms.classCount();
    }

    public int cost(int x) throws IndexOutOfBoundsException {
        refuseUnlessTerm(x);
        terms.reckon();
        // A tree of sixty terms that double each other has more operators than an int can tell.
        return (int) Math.min(terms.classCost(x), MOST_COST);
    }

    public int best(int x) throws IndexOutOfBoundsException {
        refuseUnlessTerm(x);
        terms.reckon();
        return terms.bestAt(x);
    }

    public int shared(int x) throws IndexOutOfBoundsException, UnsupportedOperationException {
        refuseUnlessTerm(x);
        if (terms.classCount() > Terms.MOST_SHARED) {
            throw new UnsupportedOperationException();
        }
        return terms.sharedCost(x);
    }

    public int value(int x, int bits, int a, int b, int c)
            throws IndexOutOfBoundsException, IllegalArgumentException {
        refuseUnlessTerm(x);
        if (bits < 2 || bits > 5) {
            throw new IllegalArgumentException();
        }
        int mask = (1 << bits) - 1;
        if (a < 0 || a > mask || b < 0 || b > mask || c < 0 || c > mask) {
            throw new IllegalArgumentException();
        }
        terms.reckon();
        return terms.worth(x, mask, a, b, c);
    }

    // The whole bench.

    public float validShare() throws ArithmeticException {
        int all = rules.size();
        if (all == 0) {
            throw new ArithmeticException();
        }
        int valid = 0;
        for (int i = 0; i < all; i++) {
            if (rules.get(i).stands()) {
                valid++;
            }
        }
        return (float) valid / (float) all;
    }

    public double meanSize() throws ArithmeticException {
        int all = programs.size();
        if (all == 0) {
            throw new ArithmeticException();
        }
        int sum = 0;
        for (int i = 0; i < all; i++) {
            sum += sizeOf(programs.get(i));
        }
        return (double) sum / (double) all;
    }

    public boolean isSound() {
        for (int i = 0; i < rules.size(); i++) {
            if (rules.get(i).stands() && !bench.isProved(rules.get(i))) {
                return false;
            }
        }
        for (int i = 0; i < programs.size(); i++) {
            if (!programs.get(i).code.hasConstantsBelow(programs.get(i).machine.modulus)) {
                return false;
            }
        }
        return terms.areCostsSound();
    }

    // What several calls need.

    private static int numberAt(int[] numbers, int index) {
        return index >= 0 && index < numbers.length ? numbers[index] : 0;
    }

    private static void setNumber(int[] numbers, int index, int number) {
        if (index >= 0 && index < numbers.length) {
            numbers[index] = number;
        }
    }

    private Machine machineOf(int number) {
        if (number < 0 || number >= machines.size()) {
            throw new IndexOutOfBoundsException();
        }
        return machines.get(number);
    }

    private Program programOf(int number) {
        if (number < 0 || number >= programs.size()) {
            throw new IndexOutOfBoundsException();
        }
        return programs.get(number);
    }

    private Target targetOf(int number) {
        if (number < 0 || number >= targets.size()) {
            throw new IndexOutOfBoundsException();
        }
        return targets.get(number);
    }

    private Rule ruleOf(int number) {
        if (number < 0 || number >= rules.size()) {
            throw new IndexOutOfBoundsException();
        }
        return rules.get(number);
    }

    private int instructionOf(int program, int index) {
        Code code = programOf(program).code;
        if (index < 0 || index >= code.count) {
            throw new IndexOutOfBoundsException();
        }
        return code.at(index);
    }

    private static Code straightCodeOf(Program program) {
        if (program.code.hasLoop) {
            throw new UnsupportedOperationException();
        }
        return program.code;
    }

    private static void refuseUnlessLive(int live) {
        if (live < 0 || live > Bench.ALL) {
            throw new IllegalArgumentException();
        }
    }

    private void refuseUnlessTerm(int x) {
        if (x < 0 || x >= terms.count) {
            throw new IndexOutOfBoundsException();
        }
    }

    private static void refuseTooManyStates(Machine machine, int named) {
        if (Bench.statesOf(machine, named) > Bench.MOST_STATES) {
            throw new UnsupportedOperationException();
        }
    }

    private int keepProgram(Program made) {
        programs.add(made);
        return programs.size() - 1;
    }

    private int keepTarget(Target made) {
        targets.add(made);
        return targets.size() - 1;
    }

    private static int sizeOf(Program program) {
        int sum = 0;
        for (int i = 0; i < program.code.count; i++) {
            sum += program.machine.sizeOf(Instruction.letterOf(program.code.at(i)));
        }
        return sum;
    }

    private static int energyOf(Program program) {
        int sum = 0;
        for (int i = 0; i < program.code.count; i++) {
            sum += program.machine.energyOf(Instruction.letterOf(program.code.at(i)));
        }
        return sum;
    }

    private int firstDifference(int program, int other, int live) {
        Program first = programOf(program);
        Program second = programOf(other);
        refuseUnlessLive(live);
        if (first.machine != second.machine) {
            throw new UnsupportedOperationException();
        }
        refuseTooManyStates(first.machine, first.code.named() | second.code.named() | live);
        return bench.firstDifference(first.machine, first.code, second.code, live);
    }

    private static boolean isPeer(Program program, Program other) {
        return program.machine == other.machine && !program.code.hasLoop;
    }

    private int frontOf(int equal) {
        int unbeaten = 0;
        for (int i = 0; i < programs.size(); i++) {
            if ((equal >> i & 1) != 0 && !isBeaten(i, equal)) {
                unbeaten++;
            }
        }
        return unbeaten;
    }

    private boolean isBeaten(int number, int equal) {
        Program program = programOf(number);
        for (int i = 0; i < programs.size(); i++) {
            if (i != number && (equal >> i & 1) != 0 && beats(programs.get(i), program)) {
                return true;
            }
        }
        return false;
    }

    private boolean beats(Program program, Program other) {
        int size = sizeOf(program) - sizeOf(other);
        int energy = energyOf(program) - energyOf(other);
        int cycles = bench.cyclesOf(program.machine, program.code)
                - bench.cyclesOf(other.machine, other.code);
        return size <= 0 && energy <= 0 && cycles <= 0 && (size < 0 || energy < 0 || cycles < 0);
    }

    private boolean isTableOf(Machine machine) {
        if (numbers != machine.modulus) {
            return false;
        }
        for (int i = 0; i < numbers; i++) {
            if (!machine.isWord(numberAt(row, i))) {
                return false;
            }
        }
        return true;
    }

    private static boolean divides(int modulus, int divisor, int factor, int shift) {
        if (divisor <= 0) {
            return false;
        }
        for (int word = 0; word < modulus; word++) {
            if (word * factor >> shift != word / divisor) {
                return false;
            }
        }
        return true;
    }

    private boolean applyLowestRule(Machine machine, Code code, int live) {
        for (int i = 0; i < rules.size(); i++) {
            Rule rule = rules.get(i);
            int at = rule.machine == machine ? rewriter.firstMatch(rule, code, live) : -1;
            if (at >= 0) {
                rewriter.apply(rule, code, at);
                return true;
            }
        }
        return false;
    }

    private int seeWindows(Code code, int length, int unlike) {
        int found = unlike;
        for (int at = 0; at + length <= code.count; at++) {
            long window = rewriter.nameless(code, at, length);
            if (!isSeen(window, found) && found >= 0 && found < seen.length) {
                seen[found] = window;
                found++;
            }
        }
        return found;
    }

    private boolean isSeen(long window, int unlike) {
        for (int i = 0; i < unlike && i < seen.length; i++) {
            if (seen[i] == window) {
                return true;
            }
        }
        return false;
    }

    /**
     * An instruction is one number: its letter, its register, whether its source is a constant, its
     * source. So the order of instructions in searches is the order of these numbers.
     */
    private static final class Instruction {
        static final String NAMES = "mausnoxcglrpLS";
        static final int LETTERS = 14;
        static final int MOVE = 0;
        static final int ADD = 1;
        static final int ADD_CARRY = 2;
        static final int SUBTRACT = 3;
        static final int AND = 4;
        static final int OR = 5;
        static final int EXCLUSIVE = 6;
        static final int TURN = 7;
        static final int OPPOSITE = 8;
        static final int LEFT = 9;
        static final int RIGHT = 10;
        static final int PRODUCT = 11;
        static final int LOAD = 12;
        static final int STORE = 13;
        private static final int CONSTANT = 32;

        static int numberOf(char letter) {
            return NAMES.indexOf(letter);
        }

        static int packed(int letter, int d, boolean isConstant, int s) {
            if (!hasSource(letter)) {
                return letter << 8 | d << 6;
            }
            return letter << 8 | d << 6 | (isConstant ? CONSTANT : 0) | s;
        }

        static int letterOf(int instruction) {
            return instruction >> 8 & 15;
        }

        static int registerOf(int instruction) {
            return instruction >> 6 & 3;
        }

        static boolean isConstant(int instruction) {
            return (instruction & CONSTANT) != 0;
        }

        static int sourceOf(int instruction) {
            return instruction & 31;
        }

        /** The letters without a source of a meaning stand side by side. */
        static boolean hasSource(int letter) {
            return letter < TURN || letter > RIGHT;
        }

        /** The register that is the source, as a live bit, 0 if there is none. */
        static int sourceBit(int instruction) {
            int letter = instruction >> 8 & 15;
            boolean isMeant = letter < TURN || letter > RIGHT;
            return isMeant && (instruction & CONSTANT) == 0 ? 1 << (instruction & 3) : 0;
        }

        static int namedBy(int instruction) {
            return 1 << registerOf(instruction) | sourceBit(instruction);
        }

        static int withSource(int instruction, int source) {
            return instruction & ~31 | source & 31;
        }
    }

    /** What runs instructions, and tells what they cost, make and read. */
    private static final class Machine {
        final int bits;
        final int cells;
        final int modulus;
        int edition;
        int allowed;
        private boolean clearsCarry;
        private boolean keepsCarry;
        private final int[] sizes = new int[Instruction.LETTERS];
        private final int[] latencies = new int[Instruction.LETTERS];
        private final int[] ports = new int[Instruction.LETTERS];
        private final int[] energies = new int[Instruction.LETTERS];

        Machine(int bits, int cells) {
            this.bits = bits;
            this.cells = cells;
            this.modulus = 1 << bits;
            this.allowed = (1 << Instruction.LOAD) - 1;
            Arrays.fill(sizes, 1);
            Arrays.fill(latencies, 1);
            Arrays.fill(energies, 1);
            latencies[Instruction.PRODUCT] = 3;
            latencies[Instruction.LOAD] = 2;
            latencies[Instruction.STORE] = 2;
        }

        void takeQuirk(int quirk, boolean is) {
            boolean had = quirk == 0 ? clearsCarry : keepsCarry;
            if (had != is) {
                edition++;
            }
            if (quirk == 0) {
                clearsCarry = is;
            } else {
                keepsCarry = is;
            }
        }

        void takeCosts(int letter, int size, int latency, int port, int energy) {
            setNumber(sizes, letter, size);
            setNumber(latencies, letter, latency);
            setNumber(ports, letter, port);
            setNumber(energies, letter, energy);
        }

        void takeAllowance(int letter, boolean is) {
            allowed = is ? allowed | 1 << letter : allowed & ~(1 << letter);
        }

        boolean knows(int letter) {
            return letter >= 0 && (letter < Instruction.LOAD || cells > 0);
        }

        boolean isWord(int word) {
            return word >= 0 && word < modulus;
        }

        boolean isSource(boolean isConstant, int s) {
            return isConstant ? isWord(s) : s >= 0 && s <= 2;
        }

        int sizeOf(int letter) {
            return numberAt(sizes, letter);
        }

        int latencyOf(int letter) {
            return numberAt(latencies, letter);
        }

        int portOf(int letter) {
            return numberAt(ports, letter);
        }

        int energyOf(int letter) {
            return numberAt(energies, letter);
        }

        private boolean changesCarry(int letter) {
            switch (letter) {
                case Instruction.ADD:
                case Instruction.ADD_CARRY:
                case Instruction.SUBTRACT:
                    return true;
                case Instruction.LEFT:
                case Instruction.RIGHT:
                    return !keepsCarry;
                case Instruction.AND:
                case Instruction.OR:
                case Instruction.EXCLUSIVE:
                case Instruction.TURN:
                    return clearsCarry;
                default:
                    return false;
            }
        }

        /** What an instruction makes, as live bits. */
        int madeBy(int instruction) {
            int letter = Instruction.letterOf(instruction);
            if (letter == Instruction.STORE) {
                return Bench.CELLS;
            }
            return 1 << Instruction.registerOf(instruction) | (changesCarry(letter) ? Bench.CARRY : 0);
        }

        /** What an instruction reads, as live bits. */
        int readBy(int instruction) {
            int letter = Instruction.letterOf(instruction);
            int read = Instruction.sourceBit(instruction);
            if (letter != Instruction.MOVE && letter != Instruction.LOAD) {
                read |= 1 << Instruction.registerOf(instruction);
            }
            if (letter == Instruction.ADD_CARRY) {
                read |= Bench.CARRY;
            }
            if (letter == Instruction.LOAD || letter == Instruction.STORE) {
                read |= Bench.CELLS;
            }
            return read;
        }

        int liveAhead(int instruction, int behind) {
            // What is made anew and read, too, comes back with what is read.
            int anew = madeBy(instruction) & ~Bench.CELLS;
            return behind & ~anew | readBy(instruction);
        }

        void step(State state, int instruction) {
            int letter = instruction >> 8 & 15;
            int d = instruction >> 6 & 3;
            int word = state.words[d];
            int source = (instruction & 32) != 0 ? instruction & 31 : state.words[instruction & 3];
            int cell = cells > 1 ? source & 1 : 0;
            switch (letter) {
                case Instruction.MOVE:
                    word = source;
                    break;
                case Instruction.ADD:
                case Instruction.ADD_CARRY:
                    word += source + (letter == Instruction.ADD ? 0 : state.carry);
                    state.carry = word >= modulus ? 1 : 0;
                    break;
                case Instruction.SUBTRACT:
                    state.carry = word < source ? 1 : 0;
                    word -= source;
                    break;
                case Instruction.OPPOSITE:
                    word = -word;
                    break;
                case Instruction.LEFT:
                    state.carry = keepsCarry ? state.carry : word >> bits - 1 & 1;
                    word <<= 1;
                    break;
                case Instruction.RIGHT:
                    state.carry = keepsCarry ? state.carry : word & 1;
                    word >>= 1;
                    break;
                case Instruction.PRODUCT:
                    word *= source;
                    break;
                case Instruction.LOAD:
                    word = state.cells[cell];
                    break;
                case Instruction.STORE:
                    state.cells[cell] = word;
                    break;
                default:
                    word = letter == Instruction.AND ? word & source
                            : letter == Instruction.OR ? word | source
                            : letter == Instruction.EXCLUSIVE ? word ^ source : ~word;
                    state.carry = clearsCarry ? 0 : state.carry;
                    break;
            }
            state.words[d] = word & modulus - 1;
        }
    }

    /** The registers, the carry and the cells. */
    private static final class State {
        /** There is a fourth word, so that whatever two bits tell is one of them. */
        final int[] words = new int[4];
        final int[] cells = new int[2];
        int carry;

        void begin(int a, int b, int c, boolean isCarry) {
            words[0] = a;
            words[1] = b;
            words[2] = c;
            carry = isCarry ? 1 : 0;
            cells[0] = 0;
            cells[1] = 0;
        }

        /** Makes it one of all states by its place in the order in which the last thing changes first. */
        void place(Machine machine, int named, int index) {
            int mask = machine.modulus - 1;
            int rest = index;
            for (int cell = 1; cell >= 0; cell--) {
                cells[cell] = cell < machine.cells ? rest & mask : 0;
                rest = cell < machine.cells ? rest >> machine.bits : rest;
            }
            carry = rest & 1;
            rest >>= 1;
            for (int register = 2; register >= 0; register--) {
                boolean isNamed = (named >> register & 1) != 0;
                words[register] = isNamed ? rest & mask : 0;
                rest = isNamed ? rest >> machine.bits : rest;
            }
        }

        /** All of it as one number, which is never below 0. */
        int packed() {
            int registers = words[0] | words[1] << 5 | words[2] << 10;
            return registers | carry << 15 | cells[0] << 16 | cells[1] << 21;
        }
    }

    /** Instructions, with a loop or without. */
    private static final class Code {
        static final int MOST = 12;
        static final int ENDLESS = -1;
        int count;
        boolean hasLoop;
        int from;
        int to;
        private int register;
        private final int[] instructions = new int[MOST];

        int at(int index) {
            return index >= 0 && index < instructions.length ? instructions[index] : 0;
        }

        void change(int index, int instruction) {
            setNumber(instructions, index, instruction);
        }

        void append(int instruction) {
            if (count >= 0 && count < instructions.length) {
                instructions[count] = instruction;
                count++;
            }
        }

        void removeAt(int index) {
            for (int i = index; i + 1 < count; i++) {
                change(i, at(i + 1));
            }
            if (count > 0) {
                count--;
            }
        }

        void takeLoop(int first, int behind, int asLongAs) {
            hasLoop = true;
            from = first;
            to = behind;
            register = asLongAs;
        }

        void takeFrom(Code other) {
            count = 0;
            appendPart(other, 0, other.count);
        }

        void takeUnrolled(Code looped, int times) {
            count = 0;
            appendPart(looped, 0, looped.from);
            for (int i = 0; i < times; i++) {
                appendPart(looped, looped.from, looped.to);
            }
            appendPart(looped, looped.to, looped.count);
        }

        /** Takes other code with another constant in the place of one, wherever that is. */
        void takeWith(Code other, int constant, int instead) {
            takeFrom(other);
            for (int i = 0; i < count; i++) {
                int instruction = at(i);
                if (Instruction.isConstant(instruction) && Instruction.sourceOf(instruction) == constant) {
                    change(i, Instruction.withSource(instruction, instead));
                }
            }
        }

        void appendPart(Code other, int first, int behind) {
            for (int i = first; i < behind; i++) {
                append(other.at(i));
            }
        }

        int named() {
            int named = hasLoop ? 1 << register : 0;
            for (int i = 0; i < count; i++) {
                named |= Instruction.namedBy(at(i));
            }
            return named;
        }

        /** The constants in it, one bit each. */
        int constants() {
            int constants = 0;
            for (int i = 0; i < count; i++) {
                if (Instruction.isConstant(at(i))) {
                    constants |= 1 << Instruction.sourceOf(at(i));
                }
            }
            return constants;
        }

        boolean hasConstantsBelow(int modulus) {
            for (int i = 0; i < count; i++) {
                if (Instruction.isConstant(at(i)) && Instruction.sourceOf(at(i)) >= modulus) {
                    return false;
                }
            }
            return true;
        }

        int runOn(Machine machine, State state) {
            int ahead = hasLoop ? from : count;
            for (int i = 0; i < ahead; i++) {
                machine.step(state, at(i));
            }
            if (!hasLoop) {
                return 0;
            }
            int done = 0;
            while (state.words[register & 3] != 0 && done < machine.modulus) {
                for (int i = from; i < to; i++) {
                    machine.step(state, at(i));
                }
                done++;
            }
            if (state.words[register & 3] != 0) {
                return ENDLESS;
            }
            for (int i = to; i < count; i++) {
                machine.step(state, at(i));
            }
            return done;
        }

        int liveAhead(Machine machine, int index, int live) {
            int ahead = live;
            for (int i = count - 1; i >= index; i--) {
                ahead = machine.liveAhead(at(i), ahead);
            }
            return ahead;
        }

        int takeOutDead(Machine machine, int live) {
            int taken = 0;
            int behind = live;
            // One way back is enough: what is dead never keeps alive what is behind it.
            for (int i = count - 1; i >= 0; i--) {
                if ((machine.madeBy(at(i)) & behind) == 0) {
                    removeAt(i);
                    taken++;
                } else {
                    behind = machine.liveAhead(at(i), behind);
                }
            }
            return taken;
        }

        int madeOn(Machine machine) {
            int made = 0;
            for (int i = 0; i < count; i++) {
                made |= machine.madeBy(at(i));
            }
            return made;
        }
    }

    /** Code for a machine. */
    private static final class Program {
        final Machine machine;
        final Code code = new Code();

        Program(Machine machine) {
            this.machine = machine;
        }
    }

    /** What programs are compared and timed on. */
    private static final class Bench {
        static final int MOST_STATES = 8192;
        static final int REGISTERS = 7;
        static final int CARRY = 8;
        static final int CELLS = 16;
        static final int ALL = 31;
        final State state = new State();
        private final Code left = new Code();
        private final Code right = new Code();
        /** When the registers, the carry and the cells are there. */
        private final int[] ready = new int[5];
        /** When each port can begin the next instruction. */
        private final int[] open = new int[2];

        static int statesOf(Machine machine, int named) {
            int words = Integer.bitCount(named & REGISTERS) + machine.cells;
            return 2 << machine.bits * words;
        }

        /** The places of what is live in a state that is one number. */
        static int placesOf(int live) {
            int places = (live & 1) != 0 ? 31 : 0;
            places |= (live & 2) != 0 ? 31 << 5 : 0;
            places |= (live & 4) != 0 ? 31 << 10 : 0;
            places |= (live & CARRY) != 0 ? 1 << 15 : 0;
            places |= (live & CELLS) != 0 ? 1023 << 16 : 0;
            return places;
        }

        /** How code ends in these places from one of all states: never as an endless one does. */
        int outcome(Machine machine, Code code, int named, int index, int places) {
            state.place(machine, named, index);
            boolean isEndless = code.runOn(machine, state) == Code.ENDLESS;
            return isEndless ? Code.ENDLESS : state.packed() & places;
        }

        int firstDifference(Machine machine, Code code, Code other, int live) {
            int named = code.named() | other.named() | live;
            int places = placesOf(live);
            int states = statesOf(machine, named);
            for (int i = 0; i < states; i++) {
                int first = outcome(machine, code, named, i, places);
                if (first != outcome(machine, other, named, i, places)) {
                    return i;
                }
            }
            return -1;
        }

        boolean isProved(Rule rule) {
            return firstDifference(rule.machine, rule.first, rule.second, rule.live) < 0;
        }

        /** The general constants, one bit each. */
        int generalsOf(Machine machine, Code code, Code other, int live) {
            int constants = code.constants();
            int generals = 0;
            for (int constant = 0; constant < machine.modulus; constant++) {
                boolean isThere = (constants >>> constant & 1) != 0;
                if (isThere && isGeneral(machine, code, other, live, constant)) {
                    generals |= 1 << constant;
                }
            }
            return generals;
        }

        private boolean isGeneral(Machine machine, Code code, Code other, int live, int constant) {
            for (int instead = 0; instead < machine.modulus; instead++) {
                left.takeWith(code, constant, instead);
                right.takeWith(other, constant, instead);
                if (instead != constant && firstDifference(machine, left, right, live) >= 0) {
                    return false;
                }
            }
            return true;
        }

        int cyclesOf(Machine machine, Code code) {
            Arrays.fill(ready, 0);
            Arrays.fill(open, 0);
            int begin = 0;
            int end = 0;
            for (int i = 0; i < code.count; i++) {
                int letter = Instruction.letterOf(code.at(i));
                int port = machine.portOf(letter);
                begin = Math.max(begin, numberAt(open, port));
                begin = Math.max(begin, readyFor(machine.readBy(code.at(i))));
                setNumber(open, port, begin + 1);
                int there = begin + machine.latencyOf(letter);
                markReady(machine.madeBy(code.at(i)), there);
                end = Math.max(end, there);
            }
            return end;
        }

        private int readyFor(int read) {
            int when = 0;
            for (int i = 0; i < ready.length; i++) {
                if ((read >> i & 1) != 0) {
                    when = Math.max(when, ready[i]);
                }
            }
            return when;
        }

        private void markReady(int made, int there) {
            for (int i = 0; i < ready.length; i++) {
                if ((made >> i & 1) != 0) {
                    ready[i] = there;
                }
            }
        }

        /** What the part of a loop never changes: the registers, then their sums by pairs. */
        int stayingIn(Machine machine, Code code) {
            int staying = 63;
            int states = statesOf(machine, REGISTERS);
            for (int i = 0; i < states && staying != 0; i++) {
                state.place(machine, REGISTERS, i);
                int a = state.words[0];
                int b = state.words[1];
                int c = state.words[2];
                for (int at = code.from; at < code.to; at++) {
                    machine.step(state, code.at(at));
                }
                int mask = machine.modulus - 1;
                staying &= alike(state.words[0] - a, state.words[1] - b, state.words[2] - c, mask);
            }
            return staying;
        }

        private static int alike(int a, int b, int c, int mask) {
            int alike = (a & mask) == 0 ? 1 : 0;
            alike |= (b & mask) == 0 ? 2 : 0;
            alike |= (c & mask) == 0 ? 4 : 0;
            alike |= (a + b & mask) == 0 ? 8 : 0;
            alike |= (a + c & mask) == 0 ? 16 : 0;
            alike |= (b + c & mask) == 0 ? 32 : 0;
            return alike;
        }
    }

    /** What programs have to do: code, a formula or a table. */
    private static final class Target {
        static final int CODE = 0;
        static final int FORMULA = 1;
        static final int TABLE = 2;
        static final int MOST_SIGNS = 20;
        static final int MOST_NUMBERS = 32;
        static final int MOST_STACK = 8;
        static final String SIGNS = "ABC0123456789+-&|^*~";
        private static final int OPERANDS = 13;
        final Machine machine;
        /** What it tells, as live bits. */
        final int live;
        int named;
        /** The constants in it and those that are always taken, one bit each. */
        int constants;
        private final int kind;
        private int signs;
        private final Code code = new Code();
        private final char[] text = new char[MOST_SIGNS];
        private final int[] row = new int[MOST_NUMBERS];
        private final int[] stack = new int[MOST_STACK];

        Target(Machine machine, int kind, int live) {
            this.machine = machine;
            this.kind = kind;
            this.live = live;
            this.named = live & Bench.REGISTERS | 1;
            this.constants = 3 | 1 << machine.modulus - 1;
        }

        void takeCode(Code told) {
            code.takeFrom(told);
            named |= code.named();
            constants |= code.constants();
        }

        void takeText(char[] told, int length) {
            for (int i = 0; i < length && i < told.length && i < text.length; i++) {
                text[i] = told[i];
                if (isRegister(told[i])) {
                    named |= 1 << told[i] - 'A';
                } else if (isDigit(told[i])) {
                    constants |= 1 << (told[i] - '0' & machine.modulus - 1);
                }
            }
            signs = length;
        }

        void takeRow(int[] told, int length) {
            for (int i = 0; i < length; i++) {
                setNumber(row, i, numberAt(told, i));
            }
        }

        private static boolean isRegister(char sign) {
            return sign >= 'A' && sign <= 'C';
        }

        private static boolean isDigit(char sign) {
            return sign >= '0' && sign <= '9';
        }

        static boolean canBeWorkedOut(char[] text, int length) {
            int height = 0;
            for (int i = 0; i < length && i < text.length; i++) {
                int sign = SIGNS.indexOf(text[i]);
                if (sign < OPERANDS) {
                    height++;
                } else if (text[i] != '~') {
                    height--;
                }
                // An operator leaves one number, so that less than one says that it had too few.
                if (height < 1 || height > MOST_STACK) {
                    return false;
                }
            }
            return height == 1;
        }

        /** What a program has to come to from a state, as a number in the places that are told. */
        int wantedFrom(State state) {
            if (kind == CODE) {
                code.runOn(machine, state);
                return state.packed() & Bench.placesOf(live);
            }
            return kind == TABLE ? numberAt(row, state.words[0]) : workedOut(state);
        }

        private int workedOut(State state) {
            int mask = machine.modulus - 1;
            int height = 0;
            for (int i = 0; i < signs && i < text.length; i++) {
                char sign = text[i];
                if (isRegister(sign)) {
                    setNumber(stack, height, numberAt(state.words, sign - 'A'));
                    height++;
                } else if (isDigit(sign)) {
                    setNumber(stack, height, sign - '0' & mask);
                    height++;
                } else if (sign == '~') {
                    setNumber(stack, height - 1, ~numberAt(stack, height - 1) & mask);
                } else {
                    height--;
                    int made = Terms.pairWorth(sign, numberAt(stack, height - 1), numberAt(stack, height));
                    setNumber(stack, height - 1, made & mask);
                }
            }
            return numberAt(stack, 0);
        }
    }

    /** Seeks programs for targets. */
    private static final class Search {
        static final int MOST_PROGRAMS = 30000;
        private static final int MOST_CHOICES = Instruction.LETTERS * 3 * (3 + 32);
        private static final int WALKED_STATES = 64;
        /** How many instructions can be taken for the target that was chosen for last. */
        int count;
        final Code tried = new Code();
        private final Bench bench = new Bench();
        private final int[] choices = new int[MOST_CHOICES];
        private final int[] wanted = new int[Bench.MOST_STATES];
        private long draws;

        void choose(Target target) {
            count = 0;
            for (int letter = 0; letter < Instruction.LETTERS; letter++) {
                for (int d = 0; d < 3; d++) {
                    if ((target.machine.allowed >> letter & target.named >> d & 1) != 0) {
                        chooseSources(target, letter, d);
                    }
                }
            }
        }

        private void chooseSources(Target target, int letter, int d) {
            if (!Instruction.hasSource(letter)) {
                keep(Instruction.packed(letter, d, false, 0));
                return;
            }
            for (int s = 0; s < 3; s++) {
                if ((target.named >> s & 1) != 0) {
                    keep(Instruction.packed(letter, d, false, s));
                }
            }
            for (int s = 0; s < target.machine.modulus; s++) {
                if ((target.constants >>> s & 1) != 0) {
                    keep(Instruction.packed(letter, d, true, s));
                }
            }
        }

        private void keep(int instruction) {
            setNumber(choices, count, instruction);
            count++;
        }

        long programsOf(int length) {
            long all = 1;
            for (int i = 0; i < length; i++) {
                all *= count;
            }
            return all;
        }

        /** Works out once what each of so many first states has to end in. */
        private void expect(Target target, int named, int states) {
            for (int i = 0; i < states; i++) {
                bench.state.place(target.machine, named, i);
                setNumber(wanted, i, target.wantedFrom(bench.state));
            }
        }

        private boolean meets(Target target, Code code, int named) {
            int states = Bench.statesOf(target.machine, named);
            int places = Bench.placesOf(target.live);
            for (int i = 0; i < states; i++) {
                if (bench.outcome(target.machine, code, named, i, places) != numberAt(wanted, i)) {
                    return false;
                }
            }
            return true;
        }

        boolean isFit(Target target, Code code) {
            int named = target.named | code.named();
            expect(target, named, Bench.statesOf(target.machine, named));
            return meets(target, code, named);
        }

        /** Leaves the program that it finds in what was tried. */
        boolean findShortest(Target target, int most) {
            expect(target, target.named, Bench.statesOf(target.machine, target.named));
            for (int length = 0; length <= most; length++) {
                long all = Math.min(programsOf(length), MOST_PROGRAMS);
                for (int number = 0; number < all; number++) {
                    spell(number, length);
                    if (meets(target, tried, target.named)) {
                        return true;
                    }
                }
            }
            return false;
        }

        /** The program of a number: its instructions are the digits, so that the order is kept. */
        private void spell(int number, int length) {
            tried.count = length;
            int rest = number;
            for (int i = length - 1; i >= 0 && count > 0; i--) {
                tried.change(i, numberAt(choices, rest % count));
                rest /= count;
            }
        }

        int leastConstant(Target target, int letter) {
            expect(target, target.named, Bench.statesOf(target.machine, target.named));
            tried.count = 1;
            for (int s = 0; s < target.machine.modulus; s++) {
                tried.change(0, Instruction.packed(letter, 0, true, s));
                if (meets(target, tried, target.named)) {
                    return s;
                }
            }
            return -1;
        }

        int leastCost(Target target, int length, int steps, int seed) {
            int states = Math.min(WALKED_STATES, Bench.statesOf(target.machine, target.named));
            expect(target, target.named, states);
            tried.count = 0;
            for (int i = 0; i < length; i++) {
                tried.append(numberAt(choices, 0));
            }
            draws = seed;
            int cost = costOf(target, states);
            int least = cost;
            for (int step = 0; step < steps; step++) {
                int at = draw(length);
                int before = tried.at(at);
                tried.change(at, numberAt(choices, draw(count)));
                int now = costOf(target, states);
                if (now > cost && draw(100) >= 10) {
                    tried.change(at, before);
                } else {
                    cost = now;
                    least = Math.min(least, now);
                }
            }
            return least;
        }

        private int draw(int below) {
            draws = (draws * 1103515245L + 12345L) % 2147483648L;
            return below > 0 ? (int) (draws / 65536L) % below : 0;
        }

        private int costOf(Target target, int states) {
            int places = Bench.placesOf(target.live);
            int wrong = 0;
            for (int i = 0; i < states; i++) {
                int outcome = bench.outcome(target.machine, tried, target.named, i, places);
                wrong += wrongIn(outcome ^ numberAt(wanted, i));
            }
            return 10 * wrong + bench.cyclesOf(target.machine, tried);
        }

        /** Bits count in registers, but cells as wholes. */
        private static int wrongIn(int difference) {
            int cells = (difference >> 16 & 31) != 0 ? 1 : 0;
            cells += (difference >> 21 & 31) != 0 ? 1 : 0;
            return Integer.bitCount(difference & 65535) + cells;
        }
    }

    /** Code that can be put in place of other code. */
    private static final class Rule {
        final Machine machine;
        final int live;
        final int generals;
        final Code first = new Code();
        final Code second = new Code();
        int edition;
        boolean isGone;

        Rule(Machine machine, int live, int generals) {
            this.machine = machine;
            this.live = live;
            this.generals = generals;
            this.edition = machine.edition;
        }

        boolean stands() {
            return !isGone && edition == machine.edition;
        }
    }

    /** Seeks windows for rules, and puts other code there. */
    private static final class Rewriter {
        private static final int NONE = -1;
        /** What each register and each general constant of the rule is in the window. */
        private final int[] registers = new int[4];
        private final int[] constants = new int[32];
        private final Code made = new Code();

        int firstMatch(Rule rule, Code code, int live) {
            int length = rule.first.count;
            if (!rule.stands() || code.count - length + rule.second.count > Code.MOST) {
                return NONE;
            }
            if ((rule.second.named() & ~rule.first.named()) != 0) {
                return NONE;
            }
            for (int at = 0; at + length <= code.count; at++) {
                int behind = code.liveAhead(rule.machine, at + length, live);
                if (isAlike(rule, code, at) && (behind & spoiledBy(rule)) == 0) {
                    return at;
                }
            }
            return NONE;
        }

        private boolean isAlike(Rule rule, Code code, int at) {
            Arrays.fill(registers, NONE);
            Arrays.fill(constants, NONE);
            for (int i = 0; i < rule.first.count; i++) {
                if (!bindAll(rule.first.at(i), code.at(at + i), rule.generals)) {
                    return false;
                }
            }
            return true;
        }

        private boolean bindAll(int told, int there, int generals) {
            if (Instruction.letterOf(told) != Instruction.letterOf(there)
                    || !bind(Instruction.registerOf(told), Instruction.registerOf(there))) {
                return false;
            }
            if (!Instruction.hasSource(Instruction.letterOf(told))) {
                return true;
            }
            int source = Instruction.sourceOf(told);
            if (Instruction.isConstant(told) != Instruction.isConstant(there)) {
                return false;
            }
            if (!Instruction.isConstant(told)) {
                return bind(source, Instruction.sourceOf(there));
            }
            if ((generals >>> source & 1) == 0) {
                return source == Instruction.sourceOf(there);
            }
            return bindConstant(source, Instruction.sourceOf(there));
        }

        private boolean bind(int told, int there) {
            if (numberAt(registers, told) != NONE) {
                return numberAt(registers, told) == there;
            }
            for (int i = 0; i < registers.length; i++) {
                if (registers[i] == there) {
                    return false;
                }
            }
            setNumber(registers, told, there);
            return true;
        }

        private boolean bindConstant(int told, int there) {
            if (numberAt(constants, told) == NONE) {
                setNumber(constants, told, there);
            }
            return numberAt(constants, told) == there;
        }

        /** What is changed in the window, but what the rule keeps, as live bits. */
        private int spoiledBy(Rule rule) {
            int changed = rule.first.madeOn(rule.machine) | rule.second.madeOn(rule.machine);
            return renamedBits(changed) & ~renamedBits(rule.live);
        }

        private int renamedBits(int bits) {
            int renamed = bits & (Bench.CARRY | Bench.CELLS);
            for (int i = 0; i < 3; i++) {
                if ((bits >> i & 1) != 0 && registers[i] != NONE) {
                    renamed |= 1 << registers[i];
                }
            }
            return renamed;
        }

        /** Puts the second code of a rule in place of the window that was found last. */
        void apply(Rule rule, Code code, int at) {
            made.count = 0;
            made.appendPart(code, 0, at);
            for (int i = 0; i < rule.second.count; i++) {
                made.append(renamed(rule.second.at(i)));
            }
            made.appendPart(code, at + rule.first.count, code.count);
            code.takeFrom(made);
        }

        private int renamed(int instruction) {
            int letter = Instruction.letterOf(instruction);
            int d = numberAt(registers, Instruction.registerOf(instruction)) & 3;
            int source = Instruction.sourceOf(instruction);
            if (!Instruction.isConstant(instruction)) {
                return Instruction.packed(letter, d, false, numberAt(registers, source) & 3);
            }
            int constant = numberAt(constants, source);
            return Instruction.packed(letter, d, true, constant == NONE ? source : constant);
        }

        /** A window as a number in which registers are numbered as they come. */
        long nameless(Code code, int at, int length) {
            Arrays.fill(registers, NONE);
            Arrays.fill(constants, NONE);
            int named = 0;
            long window = 0;
            for (int i = at; i < at + length; i++) {
                int instruction = code.at(i);
                named = numberAnew(Instruction.registerOf(instruction), named);
                if (Instruction.sourceBit(instruction) != 0) {
                    named = numberAnew(Instruction.sourceOf(instruction), named);
                }
                window = window << 12 | renamed(instruction);
            }
            return window;
        }

        private int numberAnew(int register, int named) {
            if (numberAt(registers, register) != NONE) {
                return named;
            }
            setNumber(registers, register, named);
            return named + 1;
        }
    }

    /** Terms in classes of equal ones. */
    private static final class Terms {
        static final int MOST = 60;
        static final int MOST_SHARED = 10;
        static final String LEAVES = "ABC0123456789";
        static final String LAWS = "czoindt";
        private static final String PAIRS = "+&|^*";
        private static final String SINGLES = "-~";
        private static final int NONE = -1;
        /** More operators than any tree of the terms can have. */
        private static final long FAR = 1L << 61;
        int count;
        private final char[] signs = new char[MOST];
        /** A term of one part has it on both sides, one without parts the term 0: all are found alike. */
        private final int[] lefts = new int[MOST];
        private final int[] rights = new int[MOST];
        private final int[] classes = new int[MOST];
        private final long[] costs = new long[MOST];
        private final int[] bests = new int[MOST];
        private final int[] worths = new int[MOST];
        private final int[] places = new int[MOST];
        private final boolean[] isBuilt = new boolean[1 << MOST_SHARED];

        static boolean isPair(char sign) {
            return PAIRS.indexOf(sign) >= 0;
        }

        static boolean isSingle(char sign) {
            return SINGLES.indexOf(sign) >= 0;
        }

        static int pairWorth(char sign, int x, int y) {
            switch (sign) {
                case '+':
                    return x + y;
                case '-':
                    return x - y;
                case '&':
                    return x & y;
                case '|':
                    return x | y;
                case '^':
                    return x ^ y;
                default:
                    return x * y;
            }
        }

        private char signAt(int x) {
            return x >= 0 && x < signs.length ? signs[x] : ' ';
        }

        private int leftAt(int x) {
            return x >= 0 && x < lefts.length ? lefts[x] : 0;
        }

        private int rightAt(int x) {
            return x >= 0 && x < rights.length ? rights[x] : 0;
        }

        int classAt(int x) {
            return x >= 0 && x < classes.length ? classes[x] : 0;
        }

        private boolean areJoined(int x, int y) {
            return classAt(x) == classAt(y);
        }

        int classCount() {
            int all = 0;
            for (int i = 0; i < count; i++) {
                if (classAt(i) == i) {
                    all++;
                }
            }
            return all;
        }

        /** The lowest term that is this one by the classes of its parts. */
        private int find(char sign, int left, int right) {
            int leftClass = classAt(left);
            int rightClass = classAt(right);
            for (int i = 0; i < count; i++) {
                boolean isLeft = classAt(leftAt(i)) == leftClass;
                if (signAt(i) == sign && isLeft && classAt(rightAt(i)) == rightClass) {
                    return i;
                }
            }
            return NONE;
        }

        /** The term, added if it is not there; none if there is no room. */
        int termFor(char sign, int left, int right) {
            int found = find(sign, left, right);
            if (found != NONE || count < 0 || count >= MOST) {
                return found;
            }
            signs[count] = sign;
            lefts[count] = left;
            rights[count] = right;
            classes[count] = count;
            count++;
            return count - 1;
        }

        void unite(int x, int y) {
            relabel(x, y);
            boolean isChanging = true;
            for (int round = 0; round < MOST && isChanging; round++) {
                isChanging = false;
                for (int i = 0; i < count; i++) {
                    int found = find(signAt(i), leftAt(i), rightAt(i));
                    isChanging |= relabel(i, found);
                }
            }
        }

        private boolean relabel(int x, int y) {
            int low = Math.min(classAt(x), classAt(y));
            int high = Math.max(classAt(x), classAt(y));
            for (int i = 0; i < count && low != high; i++) {
                if (classAt(i) == high) {
                    setNumber(classes, i, low);
                }
            }
            return low != high;
        }

        /** The lowest term of such a sign in the class of a term. */
        private int inClass(int x, char sign) {
            for (int i = 0; i < count; i++) {
                if (signAt(i) == sign && areJoined(i, x)) {
                    return i;
                }
            }
            return NONE;
        }

        void goBy(char law) {
            int there = count;
            for (int i = 0; i < there; i++) {
                int equal = equalBy(law, i);
                if (equal != NONE) {
                    unite(i, equal);
                }
            }
        }

        /** What a term is by a law, none if the law says nothing of it. */
        private int equalBy(char law, int x) {
            char sign = signAt(x);
            switch (law) {
                case 'c':
                    return isPair(sign) ? termFor(sign, rightAt(x), leftAt(x)) : NONE;
                case 'z':
                    return withZero(x, sign);
                case 'o':
                    return sign == '*' && inClass(rightAt(x), '1') != NONE ? leftAt(x) : NONE;
                case 'i':
                    return withItself(x, sign);
                case 'n':
                    return twiceTurned(x, sign);
                case 'd':
                    return sign == '+' && isOpposite(rightAt(x), leftAt(x)) ? termFor('0', 0, 0) : NONE;
                default:
                    return sign == '+' && areJoined(leftAt(x), rightAt(x)) ? doubled(leftAt(x)) : NONE;
            }
        }

        private int withZero(int x, char sign) {
            if (!isPair(sign)) {
                return NONE;
            }
            int zero = inClass(rightAt(x), '0');
            return zero == NONE || sign == '*' || sign == '&' ? zero : leftAt(x);
        }

        private int withItself(int x, char sign) {
            if (!isPair(sign) || !areJoined(leftAt(x), rightAt(x))) {
                return NONE;
            }
            if (sign == '&' || sign == '|') {
                return leftAt(x);
            }
            return sign == '^' ? termFor('0', 0, 0) : NONE;
        }

        private int twiceTurned(int x, char sign) {
            int inner = isSingle(sign) ? inClass(leftAt(x), sign) : NONE;
            return inner == NONE ? NONE : leftAt(inner);
        }

        private boolean isOpposite(int x, int y) {
            for (int i = 0; i < count; i++) {
                if (signAt(i) == '-' && areJoined(i, x) && areJoined(leftAt(i), y)) {
                    return true;
                }
            }
            return false;
        }

        private int doubled(int x) {
            int two = find('2', 0, 0);
            if (two == NONE && count + 2 > MOST) {
                return NONE;
            }
            return termFor('*', x, termFor('2', 0, 0));
        }

        private long costAt(int i) {
            return i >= 0 && i < costs.length ? costs[i] : FAR;
        }

        long classCost(int x) {
            return costAt(classAt(x));
        }

        /** The operators of a term, by the costs of the classes of its parts. */
        private long costByParts(int x) {
            if (isSingle(signAt(x))) {
                return Math.min(FAR, 1 + classCost(leftAt(x)));
            }
            if (isPair(signAt(x))) {
                return Math.min(FAR, 1 + classCost(leftAt(x)) + classCost(rightAt(x)));
            }
            return 0;
        }

        /** Finds the costs and the best terms of all classes. */
        void reckon() {
            Arrays.fill(costs, FAR);
            boolean isChanging = true;
            for (int round = 0; round <= MOST && isChanging; round++) {
                isChanging = false;
                for (int i = 0; i < count; i++) {
                    isChanging |= lower(classAt(i), costByParts(i));
                }
            }
            for (int i = count - 1; i >= 0; i--) {
                if (costByParts(i) == classCost(i)) {
                    setNumber(bests, classAt(i), i);
                }
            }
        }

        private boolean lower(int number, long cost) {
            if (number < 0 || number >= costs.length || costs[number] <= cost) {
                return false;
            }
            costs[number] = cost;
            return true;
        }

        int bestAt(int x) {
            return numberAt(bests, classAt(x));
        }

        /**
         * Sets of classes are built class by class, each by a term whose parts are in the set already:
         * so no choice goes round. The least set with the class that is asked for has its shared cost.
         */
        int sharedCost(int x) {
            int free = placeClasses();
            int wanted = 1 << numberAt(places, classAt(x));
            int least = MOST;
            for (int set = 0; set < isBuilt.length; set++) {
                isBuilt[set] = set == free;
            }
            for (int set = 0; set < isBuilt.length; set++) {
                if (isBuilt[set] && (set & wanted) != 0) {
                    least = Math.min(least, Integer.bitCount(set & ~free));
                } else if (isBuilt[set]) {
                    buildOn(set);
                }
            }
            return least;
        }

        /** Numbers the classes, and tells those that have a term without parts, one bit each. */
        private int placeClasses() {
            int free = 0;
            int next = 0;
            for (int i = 0; i < count; i++) {
                if (classAt(i) == i) {
                    setNumber(places, i, next);
                    next++;
                }
                if (!isPair(signAt(i)) && !isSingle(signAt(i))) {
                    free |= bitOf(i);
                }
            }
            return free;
        }

        private int bitOf(int x) {
            return 1 << numberAt(places, classAt(x));
        }

        private void buildOn(int set) {
            for (int i = 0; i < count; i++) {
                int needed = bitOf(leftAt(i)) | (isPair(signAt(i)) ? bitOf(rightAt(i)) : 0);
                int larger = set | bitOf(i);
                if ((needed & ~set) == 0 && larger >= 0 && larger < isBuilt.length) {
                    isBuilt[larger] = true;
                }
            }
        }

        /** Works out best terms from the cheap ones on, as their parts are cheaper than they are. */
        int worth(int x, int mask, int a, int b, int c) {
            Arrays.fill(places, 0);
            boolean isChanging = true;
            for (int round = 0; round <= MOST && isChanging; round++) {
                isChanging = false;
                for (int i = 0; i < count; i++) {
                    if (classAt(i) == i && numberAt(places, i) == 0 && isReady(bestAt(i))) {
                        setNumber(worths, i, worthByParts(bestAt(i), a, b, c) & mask);
                        setNumber(places, i, 1);
                        isChanging = true;
                    }
                }
            }
            return numberAt(worths, classAt(x));
        }

        private boolean isReady(int x) {
            if (!isPair(signAt(x)) && !isSingle(signAt(x))) {
                return true;
            }
            boolean isRight = isSingle(signAt(x)) || numberAt(places, classAt(rightAt(x))) == 1;
            return isRight && numberAt(places, classAt(leftAt(x))) == 1;
        }

        private int worthByParts(int x, int a, int b, int c) {
            char sign = signAt(x);
            int left = numberAt(worths, classAt(leftAt(x)));
            switch (sign) {
                case 'A':
                    return a;
                case 'B':
                    return b;
                case 'C':
                    return c;
                case '-':
                    return -left;
                case '~':
                    return ~left;
                default:
                    if (sign >= '0' && sign <= '9') {
                        return sign - '0';
                    }
                    return pairWorth(sign, left, numberAt(worths, classAt(rightAt(x))));
            }
        }

        boolean areCostsSound() {
            reckon();
            boolean isFew = classCount() <= MOST_SHARED;
            for (int i = 0; i < count; i++) {
                if (classCost(i) > costByParts(i) || isFew && sharedCost(i) > classCost(i)) {
                    return false;
                }
            }
            return true;
        }
    }
}
