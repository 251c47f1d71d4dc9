/** Promises 34 to 38: the shortest program, walks, constants, products for divisions, and what a loop leaves. */
public final class SearchTest {
    private SearchTest() {
    }

    public static void main(String[] arguments) {
        shortest();
        orders();
        oneChoice();
        tooMany();
        wrongSearches();
        walks();
        walkedCosts();
        wrongWalks();
        constants();
        products();
        stays();
        Check.end("SearchTest");
    }

    private static void allowOnly(Peepholery p, String letters) {
        for (char letter : "mausnoxcglrp".toCharArray()) {
            p.allow(0, letter, letters.indexOf(letter) >= 0);
        }
    }

    private static void shortest() {
        Object[][] due = {
            {"A", 2, ""}, {"A2*", 2, "a0r0"}, {"A~", 2, "x0#7"}, {"0A-", 2, "g0"}, {"A1-", 1, "a0#7"}, {"3", 1, "m0#3"},
            {"AB&", 1, "n0r1"}, {"BA-", 2, "s0r1 g0"}, {"A4*", 2, "a0r0 a0r0"}, {"A5*1+", 2, "a0#5 p0#5"},
        };
        for (Object[] d : due) {
            Peepholery p = Check.bench(3, 0);
            Check.formula(p, 0, (String) d[0]);
            p.allow(0, 'u', false);
            p.allow(0, 'p', ((String) d[0]).contains("5"));
            Check.due(34, "number for " + d[0], 0, () -> p.shortest(0, (int) d[1]));
            Check.due(34, "for " + d[0], d[2], () -> Check.told(p, 0));
            Check.due(34, "it fits " + d[0], true, () -> p.fits(0, 0));
        }
    }

    private static void orders() {
        Peepholery p = Check.bench(2, 1);
        Check.table(p, 0, 1, 2, 3, 0);
        p.shortest(0, 2);
        Check.due(34, "letters come in their order", "a0#1", () -> Check.told(p, 0));
        p.allow(0, 'a', false);
        p.shortest(0, 2);
        Check.due(34, "the next one", "s0#3", () -> Check.told(p, 1));
        allowOnly(p, "xcg");
        p.shortest(0, 3);
        Check.due(34, "two", "x0#3 g0", () -> Check.told(p, 2));
        allowOnly(p, "cg");
        p.shortest(0, 2);
        Check.due(34, "without sources", "c0 g0", () -> Check.told(p, 3));
        allowOnly(p, "");
        Check.due(34, "none can be taken", Check.NONE, () -> p.shortest(0, 3));
        int swap = p.target(Check.code(p, 0, "S0#0"), 16);
        p.allow(0, 'S', true);
        p.shortest(swap, 1);
        Check.due(34, "registers come first", "S0r0", () -> Check.told(p, 5));
        int carry = p.target(Check.code(p, 0, "a0#1"), 9);
        allowOnly(p, "mausnoxcglrp");
        p.shortest(carry, 1);
        Check.due(34, "with the carry", "a0#1", () -> Check.told(p, 7));
        p.allow(0, 'a', false);
        Check.due(34, "s makes another carry", Check.NONE, () -> p.shortest(carry, 1));
        int named = p.target(Check.code(p, 0, "m1r2"), 2);
        p.shortest(named, 1);
        Check.due(34, "d is a register that is named", "m1r2", () -> Check.told(p, 9));
        Check.due(34, "another program each time", 10, () -> p.shortest(named, 1));
    }

    private static void oneChoice() {
        Peepholery p = Check.bench(3, 0);
        Check.formula(p, 0, "A~");
        allowOnly(p, "c");
        p.shortest(0, 3);
        Check.due(34, "one instruction can be taken", "c0", () -> Check.told(p, 0));
        allowOnly(p, "g");
        Check.due(34, "another one", Check.NONE, () -> p.shortest(0, 3));
    }

    private static void tooMany() {
        Peepholery p = Check.bench(3, 0);
        Check.formula(p, 0, "A");
        Check.formula(p, 0, "2A*");
        p.allow(0, 'c', false);
        p.allow(0, 'm', false);
        // 7 letters with 4 or 5 sources, and g, l, r: 31 and 38.
        Check.due(33, "choices", 31, () -> p.choices(0));
        Check.due(34, "29791", 0, () -> p.shortest(0, 3));
        p.allow(0, 'c', true);
        Check.due(34, "32768 are too many, even so", Check.UNSUPPORTED, () -> p.shortest(0, 3));
        Check.due(34, "1024 are not", 1, () -> p.shortest(0, 2));
        Peepholery q = Check.bench(5, 0);
        Check.formula(q, 0, "ABC++");
        Check.due(34, "too many states", Check.UNSUPPORTED, () -> q.shortest(0, 0));
        Check.due(34, "out of range first", Check.ARGUMENT, () -> q.shortest(0, 4));
    }

    private static void wrongSearches() {
        Peepholery p = Check.bench(2, 0);
        Check.formula(p, 0, "A");
        Check.formula(p, 0, "AB*");
        Check.due(34, "no target first", Check.INDEX, () -> p.shortest(2, 4));
        Check.due(34, "out of range", Check.ARGUMENT, () -> p.shortest(0, -1));
        Check.due(34, "none of length 0", Check.NONE, () -> p.shortest(1, 0));
        while (p.program(0) < 23) {
            continue;
        }
        Check.due(34, "no room", Check.STATE, () -> p.shortest(0, 0));
        Check.due(34, "none fits first", Check.NONE, () -> p.shortest(1, 0));
    }

    private static int draw(long[] z) {
        z[0] = (z[0] * 1103515245L + 12345L) % (1L << 31);
        return (int) (z[0] / 65536);
    }

    private static void walks() {
        Peepholery p = Check.bench(3, 0);
        Check.formula(p, 0, "0A-");
        allowOnly(p, "cg");
        // c differs from g by one in all words: of 16 states, 8 differ in the bit 0 alone, and so on.
        int wrong = 0;
        for (int word = 0; word < 8; word++) {
            wrong += 2 * Integer.bitCount(7 - word ^ (8 - word & 7));
        }
        int begun = 10 * wrong + 1;
        for (int seed : new int[] {0, 1, 2, 99999}) {
            long[] z = {seed};
            int least = begun;
            for (int steps = 1; steps <= 6; steps++) {
                draw(z);
                least = draw(z) % 2 == 1 ? 1 : least;
                int due = least;
                int upTo = steps;
                Check.due(35, "seed " + seed + ", steps " + steps, due, () -> p.walk(0, 1, upTo, seed));
                if (least == 1) {
                    // From here on a step may draw once more.
                    break;
                }
            }
        }
    }

    private static void walkedCosts() {
        Peepholery p = Check.bench(3, 2);
        allowOnly(p, "c");
        Check.formula(p, 0, "A~");
        Check.due(35, "nothing is wrong", 1, () -> p.walk(0, 1, 200, 3));
        // The first 64 of 1024 states have the register 0 at 0, so that each word has three wrong bits.
        Check.due(35, "all bits are wrong", 10 * 64 * 3 + 2, () -> p.walk(0, 2, 1, 3));
        Check.due(35, "three", 3, () -> p.walk(0, 3, 1, 3));
        int code = p.target(Check.code(p, 0, "c0 S0#0 S0#1"), 16);
        // Each cell is wrong in 7 of 8 words, whatever is wrong there.
        Check.due(35, "cells count as wholes", 10 * 2 * 56 + 1, () -> p.walk(code, 1, 1, 3));
        int carry = p.target(Check.code(p, 0, "s0#0"), 8);
        Check.due(35, "the carry is wrong where it was 1: not in the first 64", 1, () -> p.walk(carry, 1, 1, 3));
        Peepholery q = Check.bench(2, 0);
        allowOnly(q, "c");
        int both = q.target(Check.code(q, 0, "s0#0"), 9);
        Check.due(35, "carry and bits", 10 * 8 * 2 + 10 * 4 + 1, () -> q.walk(both, 1, 1, 3));
        int second = q.target(Check.code(q, 0, "m1#0"), 2);
        // The first choice is on the register 0: the register 1 is as it was in 16 pairs of states.
        Check.due(35, "register 1", true, () -> q.walk(second, 1, 1, 3) <= 10 * 32 + 1);
        q.tell(0, 'c', 1, 5, 0, 1);
        Check.formula(q, 0, "A~");
        Check.due(35, "plus cycles", 5, () -> q.walk(2, 1, 9, 3));
    }

    private static void wrongWalks() {
        Peepholery p = Check.bench(2, 0);
        Check.formula(p, 0, "A");
        int[][] odd = {{0, 1, 0}, {5, 1, 0}, {1, 0, 0}, {1, 201, 0}, {1, 1, -1}, {1, 1, 100000}};
        for (int[] o : odd) {
            Check.due(35, "out of range", Check.ARGUMENT, () -> p.walk(0, o[0], o[1], o[2]));
            Check.due(35, "no target first", Check.INDEX, () -> p.walk(1, o[0], o[1], o[2]));
        }
        allowOnly(p, "");
        Check.due(35, "no instruction", Check.UNSUPPORTED, () -> p.walk(0, 1, 1, 0));
        Check.due(35, "out of range first", Check.ARGUMENT, () -> p.walk(0, 0, 1, 0));
        Peepholery q = Check.bench(5, 0);
        Check.formula(q, 0, "ABC++");
        Check.due(35, "too many states", Check.UNSUPPORTED, () -> q.walk(0, 1, 1, 0));
    }

    private static void constants() {
        Peepholery p = Check.bench(3, 1);
        Check.formula(p, 0, "A3+");
        Check.due(36, "sum", 3, () -> p.constantFor(0, 'a'));
        Check.due(36, "difference", 5, () -> p.constantFor(0, 's'));
        Check.due(36, "product", Check.NONE, () -> p.constantFor(0, 'p'));
        p.allow(0, 'a', false);
        Check.due(36, "letters that are not allowed, too", 3, () -> p.constantFor(0, 'a'));
        Check.formula(p, 0, "A");
        Check.due(36, "the least one", 0, () -> p.constantFor(1, 'o'));
        Check.due(36, "the last one", 7, () -> p.constantFor(1, 'n'));
        for (char letter : "cglrQ".toCharArray()) {
            Check.due(36, "letter " + letter, Check.ARGUMENT, () -> p.constantFor(0, letter));
        }
        Check.due(36, "no target first", Check.INDEX, () -> p.constantFor(2, 'c'));
        int load = p.target(Check.code(p, 0, "L0#5"), 1);
        Check.due(36, "cells", 0, () -> p.constantFor(load, 'L'));
        int carry = p.target(Check.code(p, 0, "s0#3"), 9);
        Check.due(36, "with the carry", 3, () -> p.constantFor(carry, 's'));
        Check.due(36, "the carry is another one", Check.NONE, () -> p.constantFor(carry, 'a'));
        Peepholery q = Check.bench(5, 0);
        Check.formula(q, 0, "ABC++");
        Check.due(36, "too many states", Check.UNSUPPORTED, () -> q.constantFor(0, 'a'));
        Check.due(36, "no cells", Check.ARGUMENT, () -> q.constantFor(0, 'L'));
    }

    private static void products() {
        Peepholery p = new Peepholery();
        for (int bits = 2; bits <= 5; bits++) {
            p.machine(bits, 0);
        }
        Check.due(37, "7 by 1", 16, () -> p.magic(1, 1));
        Check.due(37, "7 by 2", 17, () -> p.magic(1, 2));
        Check.due(37, "7 by 3", 16 * 3 + 3, () -> p.magic(1, 3));
        Check.due(37, "7 by 4", 18, () -> p.magic(1, 4));
        Check.due(37, "7 by 5", 16 * 7 + 5, () -> p.magic(1, 5));
        Check.due(37, "3 by 31: all are 0", 0, () -> p.magic(0, 31));
        Check.due(37, "31 by 31", 16 * 17 + 9, () -> p.magic(3, 31));
        for (int machine = 0; machine < 4; machine++) {
            int number = machine;
            for (int divisor = 1; divisor <= 31; divisor++) {
                int by = divisor;
                Check.due(37, "divides", true, () -> divides(p.magic(number, by), 4 << number, by));
            }
        }
        Check.due(37, "out of range", Check.ARGUMENT, () -> p.magic(0, 0));
        Check.due(37, "out of range", Check.ARGUMENT, () -> p.magic(0, 32));
        Check.due(37, "no machine first", Check.INDEX, () -> p.magic(4, 0));
    }

    private static boolean divides(int magic, int modulus, int divisor) {
        for (int word = 0; word < modulus; word++) {
            if (word * (magic / 16) >> magic % 16 != word / divisor) {
                return false;
            }
        }
        return true;
    }

    private static void stays() {
        Object[][] due = {
            {"s0#1", 2 + 4 + 32}, {"s0#1 a1#1", 4 + 8}, {"s0#1 a2#1", 2 + 16}, {"s1#1 a2#1", 1 + 32},
            {"m2#0", 1 + 2 + 8}, {"a0#0 c1 c1 g2 g2", 63}, {"m0#1 m1#2 m2#3", 0}, {"x0r0 x1r1 x2r2", 0},
        };
        for (Object[] d : due) {
            Peepholery p = Check.bench(2, 1);
            int code = Check.code(p, 0, "m0#3 " + d[0] + " m1#2");
            p.loop(code, 1, p.length(code) - 1, 0);
            Check.due(38, (String) d[0], d[1], () -> p.stays(code));
        }
        Peepholery p = Check.bench(5, 0);
        int code = Check.code(p, 0, "s0#1");
        Check.due(38, "no loop", Check.UNSUPPORTED, () -> p.stays(code));
        p.loop(code, 0, 1, 0);
        Check.due(38, "too many states, though one register is named", Check.UNSUPPORTED, () -> p.stays(code));
        Check.due(38, "no program", Check.INDEX, () -> p.stays(1));
        Peepholery q = Check.bench(4, 0);
        int four = Check.code(q, 0, "s0#1");
        q.loop(four, 0, 1, 0);
        Check.due(38, "8192 are not too many", 38, () -> q.stays(four));
    }
}
