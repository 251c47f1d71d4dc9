/** The bounds of searches, walks, constants, products and of what a loop leaves: promises 34 to 38. */
public final class SearchBoundsTest {
    private static final String LETTERS = "mausnoxcglrp";
    /** On 2 bits with the quirk 1 this adds 1 to the register 0 in the first state alone. */
    private static final String FIRST_STATE = "o1r0 o1r2 m2r1 r2 o1r2 n1#1 u1#0 s1#1 u0#0";

    private SearchBoundsTest() {
    }

    public static void main(String[] arguments) {
        lengths();
        mostPrograms();
        stateLimits();
        firstAndLastStates();
        noRoom();
        firstOfSeveral();
        walkNumbers();
        walkedStates();
        walkedBits();
        draws();
        constants();
        noConstants();
        constantsBehindSearches();
        divisors();
        leastProducts();
        staying();
        stayLimits();
        Check.end("SearchBoundsTest");
    }

    private static void allowOnly(Peepholery p, String letters) {
        for (char letter : LETTERS.toCharArray()) {
            p.allow(0, letter, letters.indexOf(letter) >= 0);
        }
    }

    /** What needs so many instructions is found with as many, and not with one less. */
    private static void lengths() {
        String[][] due = {{"A", "ag", ""}, {"A1+", "ag", "a0#1"}, {"A~", "ag", "a0#1 g0"}, {"0", "l", "l0 l0 l0"}};
        for (int length = 0; length <= 3; length++) {
            Peepholery p = Check.bench(3, 0);
            String text = due[length][0];
            String code = due[length][2];
            Check.formula(p, 0, text);
            allowOnly(p, due[length][1]);
            for (int most = 0; most < length; most++) {
                int m = most;
                Check.due(34, "at most " + most + " for " + text, Check.NONE, () -> p.shortest(0, m));
            }
            for (int most = length; most <= 3; most++) {
                int m = most;
                int number = most - length;
                Check.due(34, "at most " + most + " for " + text, number, () -> p.shortest(0, m));
                Check.due(34, "at most " + most + " for " + text, code, () -> Check.told(p, number));
            }
            for (int odd : new int[] {-1, 4, Integer.MIN_VALUE, Integer.MAX_VALUE}) {
                Check.due(34, "at most " + odd, Check.ARGUMENT, () -> p.shortest(0, odd));
            }
        }
    }

    /** The most programs of a length below 30000, and the next numbers: 172 and 174 by two, 31 and 32 by three. */
    private static void mostPrograms() {
        Peepholery p = Check.bench(4, 0);
        int two = Check.formula(p, 0, "AB+2+3+4+5+6+7+8+");
        allowOnly(p, "mausnoxcg");
        // Seven letters with two registers and ten constants, and two without sources, on two registers.
        Check.due(33, "choices", 172, () -> p.choices(two));
        Check.due(34, "29584 programs", 0, () -> p.shortest(two, 2));
        Check.due(34, "A and B and 3 more, modulo 16", "a0r1 a0#3", () -> Check.told(p, 0));
        p.allow(0, 'l', true);
        Check.due(33, "choices", 174, () -> p.choices(two));
        Check.due(34, "30276 programs", Check.UNSUPPORTED, () -> p.shortest(two, 2));
        Check.due(34, "174 programs", Check.NONE, () -> p.shortest(two, 1));
        Check.due(34, "one program", Check.NONE, () -> p.shortest(two, 0));
        Peepholery q = Check.bench(3, 0);
        int three = Check.formula(q, 0, "A");
        allowOnly(q, "ausnoxglrp");
        Check.due(33, "choices", 31, () -> q.choices(three));
        Check.due(34, "29791 programs", 0, () -> q.shortest(three, 3));
        q.allow(0, 'c', true);
        Check.due(33, "choices", 32, () -> q.choices(three));
        Check.due(34, "32768 programs, though the empty one fits", Check.UNSUPPORTED, () -> q.shortest(three, 3));
        Check.due(34, "1024 programs", 1, () -> q.shortest(three, 2));
        allowOnly(q, "");
        Check.due(34, "no instruction can be taken", 2, () -> q.shortest(three, 3));
        Check.due(34, "the empty program", 0, () -> q.length(2));
        Peepholery r = Check.bench(5, 0);
        int code = r.program(0);
        for (int i = 0; i < 12; i++) {
            r.add(code, 'a', 0, true, 2 + i);
        }
        int most = r.target(code, 3);
        // Eight letters with two registers and 15 constants, four without sources, on two registers.
        Check.due(33, "choices", 280, () -> r.choices(most));
        Check.due(34, "21952000 programs", Check.UNSUPPORTED, () -> r.shortest(most, 3));
        Check.due(34, "78400 programs", Check.UNSUPPORTED, () -> r.shortest(most, 2));
        Check.due(34, "280 programs", 1, () -> r.shortest(most, 1));
        Check.due(34, "90 more are 6 less, modulo 32", "s0#6", () -> Check.told(r, 1));
    }

    private static void stateLimits() {
        String[] texts = {"A", "AB&A|", "ABC&&A|"};
        for (int bits = 2; bits <= 5; bits++) {
            for (int cells = 0; cells <= 2; cells++) {
                Peepholery p = Check.bench(bits, cells);
                for (int i = 0; i < 3; i++) {
                    int target = Check.formula(p, 0, texts[i]);
                    boolean isTooMuch = bits * (i + 1 + cells) > 12;
                    String what = bits + " bits, " + cells + " cells, " + (i + 1) + " registers";
                    Object number = isTooMuch ? Check.UNSUPPORTED : (Object) i;
                    Check.due(34, what, number, () -> p.shortest(target, 0));
                    Check.due(36, what, isTooMuch ? Check.UNSUPPORTED : (Object) 0, () -> p.constantFor(target, 'o'));
                    Check.due(35, what, isTooMuch ? Check.UNSUPPORTED : (Object) true, () -> p.walk(target, 1, 1, 0) >= 0);
                }
            }
        }
    }

    /** What fits in all states but the first one, or but the last one, does not fit. */
    private static void firstAndLastStates() {
        Peepholery p = Check.bench(2, 0);
        p.quirk(0, 1, true);
        int same = Check.formula(p, 0, "A");
        int more = Check.formula(p, 0, "A1+");
        int first = Check.code(p, 0, FIRST_STATE);
        Check.due(32, "unlike in the first state alone", false, () -> p.fits(first, same));
        Check.due(32, "alike in the first state alone", false, () -> p.fits(first, more));
        int made = p.target(first, 1);
        Check.due(32, "the code itself", true, () -> p.fits(first, made));
        Check.due(34, "nothing that leaves the first state as it is", Check.NONE, () -> p.shortest(made, 0));
        int last = Check.code(p, 0, "n1r0 n1r2 u1#0 m1#0 u0#0");
        Check.due(32, "unlike in the last state alone", false, () -> p.fits(last, same));
    }

    private static void noRoom() {
        Peepholery p = Check.bench(2, 0);
        int same = Check.formula(p, 0, "A");
        int product = Check.formula(p, 0, "AB*");
        for (int i = 0; i < 23; i++) {
            p.program(0);
        }
        Check.due(34, "the 24th program", 23, () -> p.shortest(same, 0));
        Check.due(34, "a 25th program", Check.STATE, () -> p.shortest(same, 0));
        Check.due(34, "none that fits", Check.NONE, () -> p.shortest(product, 0));
        Check.due(6, "a 25th program", Check.STATE, () -> p.program(0));
    }

    /** The first one by letters, then d, then sources, registers first, instruction by instruction. */
    private static void firstOfSeveral() {
        Object[][] due = {
            {"0", "mausnoxcglrp", 1, "m0#0"}, {"0", "ausnoxcglrp", 1, "s0r0"}, {"0", "aunxcglrp", 1, "n0#0"},
            {"0", "aucglrpx", 1, "x0r0"}, {"0", "auop", 1, "p0#0"}, {"A", "mausnoxcglrp", 2, ""},
            {"A2*", "uslaxp", 1, "a0r0"}, {"A2*", "slpx", 1, "l0"}, {"A~", "xc", 1, "x0#7"}, {"A~", "cg", 1, "c0"},
            {"A1-", "aus", 1, "a0#7"}, {"A1-", "us", 1, "s0#1"}, {"A1-1-", "as", 2, "a0#7 a0#7"}, {"A1+1+", "as", 2, "a0#1 a0#1"},
            {"A1+1+", "s", 2, "s0#7 s0#7"}, {"A2+", "s", 2, "s0#7 s0#7"}, {"A2-", "as", 2, "s0#2"}, {"B", "mox", 1, "m0r1"}, {"A0-", "cg", 3, ""}, {"0A-", "cs", 2, "s0#1 c0"},
        };
        for (Object[] d : due) {
            Peepholery p = Check.bench(3, 0);
            int target = Check.formula(p, 0, (String) d[0]);
            allowOnly(p, (String) d[1]);
            Check.due(34, d[0] + " by " + d[1], 0, () -> p.shortest(target, (int) d[2]));
            Check.due(34, d[0] + " by " + d[1], d[3], () -> Check.told(p, 0));
        }
    }

    private static void walkNumbers() {
        Peepholery p = Check.bench(2, 0);
        int target = Check.formula(p, 0, "A~");
        allowOnly(p, "c");
        for (int length : new int[] {1, 3}) {
            Check.due(35, "length " + length, length, () -> p.walk(target, length, 1, 0));
        }
        // All bits of 8 states are wrong.
        for (int length : new int[] {2, 4}) {
            Check.due(35, "length " + length, 160 + length, () -> p.walk(target, length, 1, 0));
        }
        Check.due(35, "200 steps", 1, () -> p.walk(target, 1, 200, 0));
        Check.due(35, "one step", 1, () -> p.walk(target, 1, 1, 0));
        Check.due(35, "the seed 99999", 1, () -> p.walk(target, 1, 1, 99999));
        for (int odd : new int[] {0, 5, -1, Integer.MIN_VALUE, Integer.MAX_VALUE}) {
            Check.due(35, "length " + odd, Check.ARGUMENT, () -> p.walk(target, odd, 1, 0));
        }
        for (int odd : new int[] {0, 201, -1, Integer.MIN_VALUE, Integer.MAX_VALUE}) {
            Check.due(35, "steps " + odd, Check.ARGUMENT, () -> p.walk(target, 1, odd, 0));
        }
        for (int odd : new int[] {-1, 100000, Integer.MIN_VALUE, Integer.MAX_VALUE}) {
            Check.due(35, "seed " + odd, Check.ARGUMENT, () -> p.walk(target, 1, 1, odd));
        }
        p.allow(0, 'c', false);
        Check.due(35, "no instruction", Check.UNSUPPORTED, () -> p.walk(target, 1, 1, 0));
        p.allow(0, 'r', true);
        Check.due(35, "one instruction", true, () -> p.walk(target, 1, 1, 0) > 0);
    }

    /** A table that c misses in one word, of which two states tell, if they are of the first 64. */
    private static int missed(Peepholery p, int modulus, int word) {
        for (int i = 0; i < modulus; i++) {
            p.put(modulus - 1 - i ^ (i == word ? 1 : 0));
        }
        return p.table(0);
    }

    private static void walkedStates() {
        for (int word : new int[] {0, 1, 30, 31}) {
            Peepholery p = Check.bench(5, 0);
            allowOnly(p, "c");
            int target = missed(p, 32, word);
            Check.due(35, "64 states, word " + word, 21, () -> p.walk(target, 1, 1, 0));
        }
        for (int word : new int[] {0, 1, 2, 3, 4, 15}) {
            // A cell of 16 words: 32 states of each word.
            Peepholery p = Check.bench(4, 1);
            allowOnly(p, "c");
            int target = missed(p, 16, word);
            Check.due(35, "512 states, word " + word, word < 2 ? 321 : 1, () -> p.walk(target, 1, 1, 0));
        }
        for (int word : new int[] {0, 3}) {
            Peepholery p = Check.bench(2, 0);
            allowOnly(p, "c");
            int target = missed(p, 4, word);
            Check.due(35, "8 states, word " + word, 21, () -> p.walk(target, 1, 1, 0));
        }
        // A cell of 32 words takes all 64 states, and counts once in each, whichever of its bits are wrong.
        Peepholery wide = Check.bench(5, 1);
        allowOnly(wide, "c");
        int stored = wide.target(Check.code(wide, 0, "S0#0"), 16);
        Check.due(35, "62 of 64 cells are wrong", 621, () -> wide.walk(stored, 1, 1, 0));
        // The register 1 is named by what is live alone: 32 of its states belong to each word of the register 0.
        Peepholery q = Check.bench(4, 0);
        allowOnly(q, "c");
        int named = q.target(Check.code(q, 0, "m1r0 n1#14 c0 x0r1"), 1);
        Check.due(35, "the words 0 and 1 are as c makes them", 1, () -> q.walk(named, 1, 1, 0));
        int unlike = q.target(Check.code(q, 0, "m1r0 n1#1 c0 x0r1"), 1);
        Check.due(35, "the word 1 is not", 321, () -> q.walk(unlike, 1, 1, 0));
    }

    /** Bits in registers, but the carry and each cell as one: only of what is told. */
    private static void walkedBits() {
        Object[][] due = {
            {"m0#3 c0", 1}, {"c0", 1}, {"", 1}, {"c0 s1r1", 9}, {"c0 s1r1", 1}, {"c0 s1r1", 8}, {"c0 s1r1", 2},
            {"c0 S1#0", 16}, {"c0 S0#0", 16}, {"c0 S0#1", 16}, {"c0 S0#0 S0#1", 16}, {"a0#1 S0#1", 31}, {"m1#2", 2},
        };
        for (Object[] d : due) {
            Peepholery p = Check.bench(2, 2);
            allowOnly(p, "c");
            // 32 states of each word of the last register: two words of it are in the first 64, 0 and 1.
            int target = p.target(Check.code(p, 0, (String) d[0]), (int) d[1]);
            int cost = costByStates((String) d[0], (int) d[1]);
            Check.due(35, d[0] + " live " + d[1], cost, () -> p.walk(target, 1, 1, 0));
        }
    }

    /** The cost of c0, from all that is told, by running both on a bench that starts from each state. */
    private static int costByStates(String code, int live) {
        int wrong = 0;
        int seen = 0;
        boolean isSecondNamed = code.contains("1r") || code.contains("S1") || (live & 2) != 0;
        boolean isThirdNamed = (live & 4) != 0;
        for (int state = 0; seen < 64; state++) {
            int c = state / 32 % 4;
            int b = state / 128 % 4;
            if ((isThirdNamed || c == 0) && (isSecondNamed || b == 0)) {
                seen++;
                wrong += wrongIn(code, live, new int[] {state / 512, b, c}, state % 32);
            }
        }
        return 10 * wrong + 1;
    }

    private static int wrongIn(String code, int live, int[] words, int rest) {
        Peepholery p = Check.bench(2, 2);
        int cell0 = rest / 4 % 4;
        int cell1 = rest % 4;
        // The cells are set by what stands ahead; none of it changes the carry.
        String set = "m0#" + cell0 + " S0#0 m0#" + cell1 + " S0#1 m0#" + words[0] + " ";
        int first = Check.code(p, 0, set + code);
        int second = Check.code(p, 0, set + "c0");
        int[][] ends = new int[2][];
        for (int i = 0; i < 2; i++) {
            p.run(i == 0 ? first : second, words[0], words[1], words[2], rest >= 16);
            ends[i] = new int[] {p.word(0), p.word(1), p.word(2), p.carry() ? 1 : 0, p.cell(0), p.cell(1)};
        }
        int wrong = 0;
        for (int i = 0; i < 3; i++) {
            wrong += (live >> i & 1) * Integer.bitCount(ends[0][i] ^ ends[1][i]);
        }
        wrong += (live & 8) != 0 && ends[0][3] != ends[1][3] ? 1 : 0;
        wrong += (live & 16) != 0 && ends[0][4] != ends[1][4] ? 1 : 0;
        wrong += (live & 16) != 0 && ends[0][5] != ends[1][5] ? 1 : 0;
        return wrong;
    }

    /** Walks of two instructions of c, g, l, r, told a second time; draws of 9, 10, 98 and 99 matter in them. */
    private static void draws() {
        int[] unlike = new int[4];
        for (int seed = 0; seed < 400; seed++) {
            Peepholery p = Check.bench(3, 0);
            int target = Check.formula(p, 0, "0A2*-");
            allowOnly(p, "cglr");
            for (int steps : new int[] {5, 20, 60}) {
                int s = seed;
                int due = walked(s, steps, 10, 100);
                Check.due(35, "seed " + seed + ", steps " + steps, due, () -> p.walk(target, 2, steps, s));
                unlike[0] += walked(s, steps, 9, 100) != due ? 1 : 0;
                unlike[1] += walked(s, steps, 11, 100) != due ? 1 : 0;
                unlike[2] += walked(s, steps, 10, 99) != due ? 1 : 0;
                unlike[3] += walked(s, steps, 10, 101) != due ? 1 : 0;
            }
        }
        for (int i = 0; i < 4; i++) {
            int number = i;
            Check.due(35, "bounds of draws tell in some walks, " + i, true, () -> unlike[number] > 0);
        }
    }

    private static int walked(int seed, int steps, int stays, int modulo) {
        long[] z = {seed};
        String code = "cc";
        int cost = costOf(code);
        int least = cost;
        for (int i = 0; i < steps; i++) {
            int at = draw(z) % 2;
            char to = "cglr".charAt(draw(z) % 4);
            String changed = at == 0 ? "" + to + code.charAt(1) : "" + code.charAt(0) + to;
            int now = costOf(changed);
            if (now <= cost || draw(z) % modulo < stays) {
                code = changed;
                cost = now;
            }
            least = Math.min(least, cost);
        }
        return least;
    }

    private static int draw(long[] z) {
        z[0] = (z[0] * 1103515245L + 12345L) % 2147483648L;
        return (int) (z[0] / 65536L);
    }

    private static int costOf(String code) {
        int wrong = 0;
        for (int word = 0; word < 8; word++) {
            int is = word;
            for (char letter : code.toCharArray()) {
                is = letter == 'c' ? 7 - is : letter == 'g' ? (8 - is) % 8 : letter == 'l' ? is * 2 % 8 : is / 2;
            }
            wrong += 2 * Integer.bitCount(is ^ (16 - 2 * word) % 8);
        }
        return 10 * wrong + code.length();
    }

    private static void constants() {
        for (int bits = 2; bits <= 5; bits++) {
            int most = (int) Math.pow(2, bits) - 1;
            Object[][] due = {
                {"A", 'a', 0}, {"A", 's', 0}, {"A", 'o', 0}, {"A", 'x', 0}, {"A", 'n', most}, {"A", 'p', 1},
                {"A~", 'x', most}, {"A1-", 'a', most}, {"A1+", 's', most}, {"0A-", 'p', most}, {"0", 'm', 0}, {"0~", 'm', most},
                {"0~", 'o', most}, {"0", 'n', 0}, {"0", 'p', 0}, {"A", 'u', Check.NONE}, {"A", 'm', Check.NONE},
            };
            Peepholery p = Check.bench(bits, 0);
            for (Object[] d : due) {
                // No room for more than ten targets: a bench for each.
                Peepholery q = Check.bench(bits, 0);
                int target = Check.formula(q, 0, (String) d[0]);
                Check.due(36, d[1] + " for " + d[0] + " on " + bits + " bits", d[2], () -> q.constantFor(target, (char) d[1]));
            }
            int target = Check.formula(p, 0, "A");
            for (char letter : "cglr".toCharArray()) {
                Check.due(36, letter + " has no source", Check.ARGUMENT, () -> p.constantFor(target, letter));
            }
            for (char letter : new char[] {'q', 'A', (char) 0, (char) 255, 'L', 'S'}) {
                Check.due(36, letter + " is no letter here", Check.ARGUMENT, () -> p.constantFor(target, letter));
            }
        }
    }

    /** Letters for cells, and what is live besides the register 0. */
    private static void noConstants() {
        Peepholery p = Check.bench(2, 2);
        int first = p.target(Check.code(p, 0, "L0#2"), 1);
        int second = p.target(Check.code(p, 0, "L0#3"), 1);
        int stored = p.target(Check.code(p, 0, "S0#1"), 17);
        int other = p.target(Check.code(p, 0, "c1"), 2);
        int carry = p.target(Check.code(p, 0, "a0#1"), 8);
        Check.due(36, "the cell 0", 0, () -> p.constantFor(first, 'L'));
        Check.due(36, "the cell 1", 1, () -> p.constantFor(second, 'L'));
        Check.due(36, "the cell 1 is stored", 1, () -> p.constantFor(stored, 'S'));
        Check.due(36, "no cell is loaded", Check.NONE, () -> p.constantFor(stored, 'L'));
        Check.due(36, "the register 1 is out of reach", Check.NONE, () -> p.constantFor(other, 'x'));
        Check.due(36, "the carry of 1", 1, () -> p.constantFor(carry, 'a'));
        Check.due(36, "the carry of no constant", Check.NONE, () -> p.constantFor(carry, 'u'));
    }

    /** One instruction alone, though more were tried ahead of it, and no constant of the modulus or above. */
    private static void constantsBehindSearches() {
        Peepholery p = Check.bench(2, 0);
        int target = Check.formula(p, 0, "A3+");
        Check.due(36, "at first", 3, () -> p.constantFor(target, 'a'));
        p.walk(target, 4, 200, 1);
        Check.due(36, "behind a walk", 3, () -> p.constantFor(target, 'a'));
        allowOnly(p, "ag");
        int turned = Check.formula(p, 0, "A~");
        Check.due(34, "a search", "a0#1 g0", () -> Check.told(p, p.shortest(turned, 2)));
        Check.due(36, "behind a search", 3, () -> p.constantFor(target, 'a'));
        // The register 0 as it was, and the carry 1: only a sum with the modulus would make this.
        int carry = p.target(Check.code(p, 0, "m1r0 m0#0 s0#1 m0r1"), 9);
        Check.due(36, "no constant of the modulus", Check.NONE, () -> p.constantFor(carry, 'a'));
        Check.due(36, "no constant of the modulus", Check.NONE, () -> p.constantFor(carry, 's'));
    }

    private static void divisors() {
        Peepholery p = Check.bench(2, 0);
        p.machine(5, 0);
        Check.due(37, "by 1", 16, () -> p.magic(0, 1));
        Check.due(37, "by 1", 16, () -> p.magic(1, 1));
        Check.due(37, "4 words by 3", 16 * 3 + 3, () -> p.magic(0, 3));
        Check.due(37, "4 words by 4 are all 0", 0, () -> p.magic(0, 4));
        Check.due(37, "4 words by 31 are all 0", 0, () -> p.magic(0, 31));
        Check.due(37, "32 words by 31", 16 * 17 + 9, () -> p.magic(1, 31));
        for (int odd : new int[] {0, 32, -1, Integer.MIN_VALUE, Integer.MAX_VALUE}) {
            Check.due(37, "by " + odd, Check.ARGUMENT, () -> p.magic(0, odd));
        }
    }

    /** By trying all: no lesser shift, and no lesser factor, will do. */
    private static void leastProducts() {
        Peepholery p = new Peepholery();
        for (int machine = 0; machine < 4; machine++) {
            p.machine(2 + machine, 0);
            for (int divisor = 1; divisor <= 31; divisor++) {
                int m = machine;
                int by = divisor;
                int due = tried(4 << machine, divisor);
                Check.due(37, (4 << machine) + " words by " + divisor, due, () -> p.magic(m, by));
            }
        }
    }

    private static int tried(int modulus, int divisor) {
        for (int shift = 0; shift <= 10; shift++) {
            for (int factor = 0; factor < 5000; factor++) {
                boolean isRight = true;
                for (int word = 0; word < modulus && isRight; word++) {
                    isRight = (int) (word * factor / Math.pow(2, shift)) == word / divisor;
                }
                if (isRight) {
                    return 16 * factor + shift;
                }
            }
        }
        return -1;
    }

    /** Sums are modulo the modulus, and the part is done once, even where its register is 0. */
    private static void staying() {
        Object[][] due = {
            {"a0#1", 6 + 32}, {"a0#1 s1#1", 4 + 8}, {"s0#1 a2#1", 2 + 16}, {"a1#1 s2#1", 1 + 32}, {"m0r0", 63},
            {"a0#2 a0#2", 63}, {"a0#2 a1#2", 4 + 8}, {"m0#0", 6 + 32}, {"m0#0 m1#0 m2#0", 0}, {"m2r0", 3 + 8},
            {"a0#3 a1#1", 4 + 8}, {"a0#1 a1#1", 4}, {"c0 c1 c2", 0}, {"S0#0", 63}, {"L1#0", 1 + 4 + 16}, {"u1#0", 1 + 4 + 16},
            {"n0#3 o1#0 x2#0", 63}, {"n0#1", 6 + 32},
        };
        for (Object[] d : due) {
            for (int register = 0; register < 3; register++) {
                Peepholery p = Check.bench(2, 1);
                int code = Check.code(p, 0, (String) d[0]);
                p.loop(code, 0, p.length(code), register);
                Check.due(38, (String) d[0] + " by register " + register, d[1], () -> p.stays(code));
            }
        }
        Peepholery p = Check.bench(2, 1);
        int inner = Check.code(p, 0, "m0#1 m1#1 m2#1 c0 m1#1 m2#1");
        p.loop(inner, 3, 4, 0);
        Check.due(38, "the part alone counts", 6 + 32, () -> p.stays(inner));
        int none = Check.code(p, 0, "c0");
        Check.due(38, "without a loop", Check.UNSUPPORTED, () -> p.stays(none));
    }

    /** All registers count, named or not. */
    private static void stayLimits() {
        for (int bits = 2; bits <= 5; bits++) {
            for (int cells = 0; cells <= 2; cells++) {
                Peepholery p = Check.bench(bits, cells);
                int code = Check.code(p, 0, "m0r0");
                p.loop(code, 0, 1, 0);
                Object due = bits * (3 + cells) > 12 ? Check.UNSUPPORTED : (Object) 63;
                Check.due(38, bits + " bits, " + cells + " cells", due, () -> p.stays(code));
            }
        }
        Peepholery q = Check.bench(2, 0);
        q.quirk(0, 1, true);
        // Unlike in the first state alone: r1 becomes 1 if a register is not 0, and 1 more by the carry.
        int first = Check.code(q, 0, FIRST_STATE);
        q.loop(first, 0, q.length(first), 0);
        Check.due(38, "only the first state changes the register 0", 0, () -> q.stays(first));
        Peepholery p = Check.bench(4, 0);
        // Unlike in the last state alone: all registers the greatest word, and the carry 1.
        int last = Check.code(p, 0, "n2r0 n2r1 u2#0 m2#0 u0#0");
        p.loop(last, 0, 5, 0);
        Check.due(38, "only the last state changes the register 0", 2, () -> p.stays(last));
    }
}
