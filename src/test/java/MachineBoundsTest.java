/** The bounds of machines, words, cells, quirks and costs: promises 2 to 5, and the letters of "Terms". */
public final class MachineBoundsTest {
    private static final String LETTERS = "mausnoxcglrpLS";

    private MachineBoundsTest() {
    }

    public static void main(String[] arguments) {
        bitsAndCells();
        numbersOfMachines();
        quirkNumbers();
        editions();
        firstCosts();
        costsAtBounds();
        refusedCosts();
        firstAllowance();
        unknownLetters();
        for (int bits = 2; bits <= 5; bits++) {
            for (int quirks = 0; quirks < 4; quirks++) {
                words(bits, quirks);
            }
            cellNumbers(bits, 1);
            cellNumbers(bits, 2);
        }
        Check.end("MachineBoundsTest");
    }

    private static void bitsAndCells() {
        for (int bits = 0; bits <= 7; bits++) {
            for (int cells = -2; cells <= 4; cells++) {
                int b = bits;
                int c = cells;
                boolean isIn = bits >= 2 && bits <= 5 && cells >= 0 && cells <= 2;
                Object due = isIn ? (Object) 0 : Check.ARGUMENT;
                Check.due(2, bits + " bits, " + cells + " cells", due, () -> new Peepholery().machine(b, c));
            }
        }
        for (int far : Check.FAR) {
            Check.due(2, far + " bits", Check.ARGUMENT, () -> new Peepholery().machine(far, 0));
            Check.due(2, far + " cells", Check.ARGUMENT, () -> new Peepholery().machine(2, far));
        }
    }

    /** Each method that takes a machine, with the first and the last one, and just beyond them. */
    private static void numbersOfMachines() {
        Peepholery p = new Peepholery();
        for (int i = 0; i < 4; i++) {
            int number = i;
            Check.due(2, "there is no machine " + i + " yet", Check.INDEX, () -> p.quirk(number, 0, false));
            Check.due(2, "machine " + i, i, () -> p.machine(2, 0));
            Check.due(3, "machine " + i, 0, () -> p.quirk(number, 0, false));
            Check.due(4, "machine " + i, 1, () -> p.tell(number, 'a', 1, 1, 0, 1));
            Check.due(5, "machine " + i, 12, () -> p.allow(number, 'a', true));
            Check.due(6, "machine " + i, i, () -> p.program(number));
            Check.due(28, "machine " + i, i, () -> Check.formula(p, number, "A"));
            Check.due(37, "machine " + i, 16, () -> p.magic(number, 1));
            Check.due(45, "machine " + i, 0, () -> p.windows(number, 1));
        }
        Check.due(30, "machine 3", 4, () -> Check.table(p, 3, 0, 1, 2, 3));
        Check.due(2, "a fifth machine", Check.STATE, () -> p.machine(2, 0));
        p.type('A');
        int[] odd = {-1, 4, Integer.MIN_VALUE, Integer.MAX_VALUE};
        for (int o : odd) {
            Check.due(3, "machine " + o, Check.INDEX, () -> p.quirk(o, 0, false));
            Check.due(4, "machine " + o, Check.INDEX, () -> p.tell(o, 'a', 1, 1, 0, 1));
            Check.due(5, "machine " + o, Check.INDEX, () -> p.allow(o, 'a', true));
            Check.due(6, "machine " + o, Check.INDEX, () -> p.program(o));
            Check.due(28, "machine " + o, Check.INDEX, () -> p.formula(o));
            Check.due(30, "machine " + o, Check.INDEX, () -> p.table(o));
            Check.due(37, "machine " + o, Check.INDEX, () -> p.magic(o, 1));
            Check.due(45, "machine " + o, Check.INDEX, () -> p.windows(o, 1));
        }
    }

    private static void quirkNumbers() {
        Peepholery p = Check.bench(2, 0);
        Check.due(3, "quirk 0", 1, () -> p.quirk(0, 0, true));
        Check.due(3, "quirk 1", 2, () -> p.quirk(0, 1, true));
        for (int odd : new int[] {-1, 2}) {
            Check.due(3, "quirk " + odd, Check.ARGUMENT, () -> p.quirk(0, odd, true));
            Check.due(3, "quirk " + odd, Check.ARGUMENT, () -> p.quirk(0, odd, false));
        }
        for (int far : Check.FAR) {
            Check.due(3, "quirk " + far, Check.ARGUMENT, () -> p.quirk(0, far, true));
        }
        Check.due(3, "refused ones change nothing", 2, () -> p.quirk(0, 0, true));
    }

    /** A quirk that is as it was before is no change, for either and on each machine. */
    private static void editions() {
        Peepholery p = Check.bench(2, 0);
        p.machine(2, 0);
        Check.due(3, "0 at first, not had and not given", 0, () -> p.quirk(0, 1, false));
        int[][] calls = {{0, 0, 0}, {0, 1, 1}, {0, 1, 1}, {1, 1, 2}, {1, 1, 2}, {0, 0, 3}, {0, 0, 3}, {1, 0, 4}, {1, 0, 4}};
        for (int[] c : calls) {
            Check.due(3, "quirk " + c[0] + " is " + c[1], c[2], () -> p.quirk(0, c[0], c[1] == 1));
        }
        Check.due(3, "the other machine has its own edition", 0, () -> p.quirk(1, 0, false));
        for (int i = 5; i < 200; i++) {
            p.quirk(0, 0, i % 2 == 1);
        }
        Check.due(3, "editions have no end", 200, () -> p.quirk(0, 1, true));
    }

    private static void firstCosts() {
        for (char letter : LETTERS.toCharArray()) {
            Peepholery p = Check.bench(2, 1);
            int code = Check.code(p, 0, letter + "0#0");
            int latency = letter == 'p' ? 3 : letter == 'L' || letter == 'S' ? 2 : 1;
            Check.due(4, letter + " has the size 1", 1, () -> p.size(code));
            Check.due(4, letter + " has the latency " + latency, latency, () -> p.cycles(code));
            Check.due(4, letter + " has the energy 1", 1, () -> p.energy(code));
            // Behind it on the port 0 the cycle 1 is the first free one, on the port 1 it is the cycle 0.
            char behind = letter == 'm' ? 'c' : 'm';
            p.tell(0, behind, 1, 9, 0, 0);
            int both = Check.code(p, 0, letter + "0#0 " + behind + "1#0");
            Check.due(4, letter + " has the port 0", 10, () -> p.cycles(both));
            p.tell(0, behind, 1, 9, 1, 0);
            Check.due(4, letter + " has the port 0 alone", 9, () -> p.cycles(both));
        }
    }

    private static void costsAtBounds() {
        for (char letter : LETTERS.toCharArray()) {
            Peepholery p = Check.bench(2, 1);
            int code = Check.code(p, 0, letter + "0#0");
            Check.due(4, "the least costs of " + letter, 1, () -> p.tell(0, letter, 1, 1, 0, 0));
            Check.due(22, "size 1", 1, () -> p.size(code));
            Check.due(23, "latency 1", 1, () -> p.cycles(code));
            Check.due(24, "energy 0", 0, () -> p.energy(code));
            Check.due(4, "the greatest costs of " + letter, 1, () -> p.tell(0, letter, 9, 9, 1, 99));
            Check.due(22, "size 9", 9, () -> p.size(code));
            Check.due(23, "latency 9", 9, () -> p.cycles(code));
            Check.due(24, "energy 99", 99, () -> p.energy(code));
            Check.due(4, "the size before", 9, () -> p.tell(0, letter, 5, 1, 0, 0));
            Check.due(4, "the size before", 5, () -> p.tell(0, letter, 5, 1, 0, 0));
        }
    }

    /** Refused costs are not taken in part, either. */
    private static void refusedCosts() {
        Peepholery p = Check.bench(2, 0);
        p.tell(0, 'm', 4, 5, 0, 6);
        int code = Check.code(p, 0, "m0#0");
        int[] least = {1, 1, 0, 0};
        int[] most = {9, 9, 1, 99};
        for (int i = 0; i < 4; i++) {
            for (int odd : new int[] {least[i] - 1, most[i] + 1, Integer.MIN_VALUE, Integer.MAX_VALUE}) {
                int[] told = {7, 8, 1, 9};
                told[i] = odd;
                String what = "number " + i + " is " + odd;
                Check.due(4, what, Check.ARGUMENT, () -> p.tell(0, 'm', told[0], told[1], told[2], told[3]));
                Check.due(22, what, 4, () -> p.size(code));
                Check.due(23, what, 5, () -> p.cycles(code));
                Check.due(24, what, 6, () -> p.energy(code));
            }
        }
    }

    private static void firstAllowance() {
        for (char letter : LETTERS.toCharArray()) {
            Peepholery p = Check.bench(2, 1);
            boolean isForCells = letter == 'L' || letter == 'S';
            int allowed = isForCells ? 12 : 11;
            Check.due(5, letter + " not allowed", allowed, () -> p.allow(0, letter, false));
            Check.due(5, letter + " not allowed again", allowed, () -> p.allow(0, letter, false));
            Check.due(5, letter + " allowed", allowed + 1, () -> p.allow(0, letter, true));
            Check.due(5, letter + " allowed again", allowed + 1, () -> p.allow(0, letter, true));
        }
        Peepholery p = Check.bench(2, 2);
        int left = 12;
        for (char letter : "mausnoxcglrp".toCharArray()) {
            left--;
            int due = left;
            Check.due(5, "all up to " + letter + " not allowed", due, () -> p.allow(0, letter, false));
        }
        for (char letter : LETTERS.toCharArray()) {
            left++;
            int due = left;
            Check.due(5, "all up to " + letter + " allowed", due, () -> p.allow(0, letter, true));
        }
    }

    private static void unknownLetters() {
        Peepholery with = Check.bench(2, 1);
        Peepholery without = Check.bench(2, 0);
        int program = with.program(0);
        int other = without.program(0);
        with.add(program, 'm', 0, true, 0);
        for (int sign = 0; sign < 256; sign++) {
            char letter = (char) sign;
            if (LETTERS.indexOf(letter) < 0 && (sign > 60 && sign < 126 || sign < 3 || sign > 253)) {
                Check.due(4, "letter " + sign, Check.ARGUMENT, () -> with.tell(0, letter, 1, 1, 0, 1));
                Check.due(5, "letter " + sign, Check.ARGUMENT, () -> with.allow(0, letter, true));
                Check.due(7, "letter " + sign, Check.ARGUMENT, () -> with.add(program, letter, 0, true, 0));
            }
        }
        for (char letter : "LS".toCharArray()) {
            Check.due(7, letter + " without cells", Check.ARGUMENT, () -> without.add(other, letter, 0, true, 0));
            Check.due(7, letter + " with a cell", true, () -> with.add(program, letter, 0, true, 0) > 1);
            Check.due(5, letter + " without cells", Check.ARGUMENT, () -> without.allow(0, letter, true));
            Check.due(5, letter + " without cells", Check.ARGUMENT, () -> without.allow(0, letter, false));
            Check.due(4, letter + " without cells has costs", 1, () -> without.tell(0, letter, 1, 1, 0, 1));
        }
        Check.due(7, "refused letters add nothing", 0, () -> without.length(other));
        Check.due(7, "refused letters add nothing", 3, () -> with.length(program));
    }

    /** All letters at the least and greatest words, told by plain sums: 100 times the word, and the carry. */
    private static void words(int bits, int quirks) {
        int modulus = (int) Math.pow(2, bits);
        int[] edges = {0, 1, modulus / 2 - 1, modulus / 2, modulus - 1};
        for (char letter : "mausnoxcglrp".toCharArray()) {
            Peepholery p = Check.bench(bits, 0);
            p.quirk(0, 0, quirks % 2 == 1);
            p.quirk(0, 1, quirks / 2 == 1);
            int code = Check.code(p, 0, letter + "0r1");
            for (int d : edges) {
                for (int s : edges) {
                    for (int carry = 0; carry < 2; carry++) {
                        int c = carry;
                        String what = letter + " on " + bits + " bits, quirks " + quirks + ": " + d + " " + s + " " + c;
                        int due = 100 * word(letter, d, s, c, modulus) + carry(letter, d, s, c, modulus, quirks);
                        Check.due(14, what, due, () -> ran(p, code, d, s, c == 1));
                    }
                }
            }
        }
    }

    private static int ran(Peepholery p, int code, int d, int s, boolean carry) {
        p.run(code, d, s, 0, carry);
        return 100 * p.word(0) + (p.carry() ? 1 : 0);
    }

    private static int word(char letter, int d, int s, int carry, int modulus) {
        switch (letter) {
            case 'm': return s;
            case 'a': return (d + s) % modulus;
            case 'u': return (d + s + carry) % modulus;
            case 's': return (d + modulus - s) % modulus;
            case 'n': return d & s;
            case 'o': return d | s;
            case 'x': return (d | s) - (d & s);
            case 'c': return modulus - 1 - d;
            case 'g': return (modulus - d) % modulus;
            case 'l': return 2 * d % modulus;
            case 'r': return d / 2;
            default: return d * s % modulus;
        }
    }

    private static int carry(char letter, int d, int s, int carry, int modulus, int quirks) {
        switch (letter) {
            case 'a': return (d + s) / modulus;
            case 'u': return (d + s + carry) / modulus;
            case 's': return d < s ? 1 : 0;
            case 'n': case 'o': case 'x': case 'c': return quirks % 2 == 1 ? 0 : carry;
            case 'l': return quirks / 2 == 1 ? carry : 2 * d / modulus;
            case 'r': return quirks / 2 == 1 ? carry : d % 2;
            default: return carry;
        }
    }

    /** L and S take the cell of each number, as a constant and in a register, modulo the cells. */
    private static void cellNumbers(int bits, int cells) {
        int modulus = (int) Math.pow(2, bits);
        for (int quirks = 0; quirks < 4; quirks += 3) {
            Peepholery p = Check.bench(bits, cells);
            p.quirk(0, 0, quirks == 3);
            p.quirk(0, 1, quirks == 3);
            int stored = Check.code(p, 0, "S0r1 L2r1");
            for (int number : new int[] {0, 1, 2, modulus - 2, modulus - 1}) {
                String what = cells + " cells, number " + number;
                int constant = Check.code(p, 0, "S0#" + number);
                p.run(constant, modulus - 1, 0, 0, true);
                Check.due(17, what, modulus - 1, () -> p.cell(number % cells));
                Check.due(17, what + ", the other one", cells == 1 ? Check.NONE : (Object) 0, () -> p.cell(1 - number % cells));
                p.run(stored, modulus - 1, number, 0, true);
                Check.due(17, what + " in a register", modulus - 1, () -> p.cell(number % cells));
                Check.due(15, what + " in a register", modulus - 1, () -> p.word(2));
                Check.due(15, "S leaves d", modulus - 1, () -> p.word(0));
                Check.due(15, "L and S leave the number", number, () -> p.word(1));
                Check.due(16, "L and S leave the carry", true, p::carry);
            }
        }
    }
}
