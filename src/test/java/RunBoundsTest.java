/** The bounds of runs, states, equality and liveness: promises 14 to 21. */
public final class RunBoundsTest {
    private RunBoundsTest() {
    }

    public static void main(String[] arguments) {
        for (int bits = 2; bits <= 5; bits++) {
            words(bits);
            loopTimes(bits);
            orders(bits);
        }
        lastRun();
        lastCells();
        endlessStops();
        liveBounds();
        stateLimits();
        waysToName();
        lastStates();
        for (int bits = 2; bits <= 5; bits++) {
            liveThings(bits);
        }
        endlessOnes();
        liveIndices();
        liveAhead();
        dead();
        deadChains();
        Check.end("RunBoundsTest");
    }

    private static void words(int bits) {
        Peepholery p = Check.bench(bits, 0);
        int modulus = (int) Math.pow(2, bits);
        int code = Check.code(p, 0, "");
        Check.due(14, "words of 0", 0, () -> p.run(code, 0, 0, 0, false));
        Check.due(14, "greatest words", 0, () -> p.run(code, modulus - 1, modulus - 1, modulus - 1, true));
        for (int odd : new int[] {-1, modulus, Integer.MIN_VALUE, Integer.MAX_VALUE}) {
            Check.due(14, "a is " + odd, Check.ARGUMENT, () -> p.run(code, odd, 0, 0, false));
            Check.due(14, "b is " + odd, Check.ARGUMENT, () -> p.run(code, 0, odd, 0, false));
            Check.due(14, "c is " + odd, Check.ARGUMENT, () -> p.run(code, 0, 0, odd, false));
        }
        for (int i = 0; i < 3; i++) {
            int register = i;
            Check.due(15, "refused runs leave register " + i, modulus - 1, () -> p.word(register));
        }
        Check.due(16, "refused runs leave the carry", true, p::carry);
    }

    /** The register 0 takes what the register 2 was, that what the register 1 was, and this counts down. */
    private static void loopTimes(int bits) {
        Peepholery p = Check.bench(bits, 0);
        int modulus = (int) Math.pow(2, bits);
        int code = Check.code(p, 0, "m0r2 m2r1 s1#1 m2#1");
        p.loop(code, 0, 3, 0);
        for (int i = 0; i < modulus - 1; i++) {
            int start = i;
            Check.due(14, start + 2 + " times of " + modulus, start + 2, () -> p.run(code, 1, start, 1, false));
        }
        Check.due(15, "what is behind is done", 1, () -> p.word(2));
        Check.due(14, "once more is endless", -1, () -> p.run(code, 1, modulus - 1, 1, false));
        Check.due(15, "it was done as many times as the modulus is", modulus - 1, () -> p.word(1));
        Check.due(15, "what is behind is not done", 0, () -> p.word(2));
        Check.due(14, "once", 1, () -> p.run(code, 1, 0, 0, false));
        Check.due(14, "not at all", 0, () -> p.run(code, 0, 1, 1, false));
        Check.due(15, "what is behind is done", 1, () -> p.word(2));
        for (int register = 0; register < 3; register++) {
            int r = register;
            int never = Check.code(p, 0, "m" + r + "r" + r);
            p.loop(never, 0, 1, r);
            Check.due(14, "the loop of register " + r + " never ends", -1,
                    () -> p.run(never, r == 0 ? 1 : 0, r == 1 ? 1 : 0, r == 2 ? 1 : 0, false));
            Check.due(14, "the other registers are of no meaning", 0,
                    () -> p.run(never, r == 0 ? 0 : 1, r == 1 ? 0 : 1, r == 2 ? 0 : 1, false));
        }
    }

    /** The first state in which a thing is not 0: the last of the things that are named changes first. */
    private static void orders(int bits) {
        int modulus = (int) Math.pow(2, bits);
        for (int cells = 0; cells <= 2; cells++) {
            Peepholery p = Check.bench(bits, cells);
            int behind = (int) Math.pow(modulus, cells);
            int none = Check.code(p, 0, "m0#0 a0#0");
            int carry = Check.code(p, 0, "m0#0 u0#0");
            first(p, "the carry", carry, none, 1, behind, bits * (1 + cells));
            int own = Check.code(p, 0, "");
            first(p, "register 0 alone", own, none, 1, 2 * behind, bits * (1 + cells));
            first(p, "register 0 and the register 1", own, none, 3, 2 * behind * modulus, bits * (2 + cells));
            first(p, "register 0 and the register 2", own, none, 5, 2 * behind * modulus, bits * (2 + cells));
            first(p, "all registers", own, none, 7, 2 * behind * modulus * modulus, bits * (3 + cells));
            int second = Check.code(p, 0, "m0r1");
            first(p, "register 1", second, none, 1, 2 * behind, bits * (2 + cells));
            first(p, "register 1 and the register 2", second, none, 5, 2 * behind * modulus, bits * (3 + cells));
            int third = Check.code(p, 0, "m0r2");
            first(p, "register 2", third, none, 3, 2 * behind, bits * (3 + cells));
            if (cells > 0) {
                first(p, "cell 0", Check.code(p, 0, "L0#0"), none, 1, cells == 2 ? modulus : 1, bits * (1 + cells));
                first(p, "the last cell", Check.code(p, 0, "L0#" + (cells - 1)), none, 1, 1, bits * (1 + cells));
            }
        }
    }

    private static void first(Peepholery p, String what, int code, int other, int live, int due, int bitsInAll) {
        boolean isTooMuch = bitsInAll > 12;
        Check.due(19, what, isTooMuch ? Check.UNSUPPORTED : (Object) due, () -> p.differsAt(code, other, live));
        Check.due(18, what, isTooMuch ? Check.UNSUPPORTED : (Object) false, () -> p.areEqual(code, other, live));
    }

    private static void lastRun() {
        Peepholery p = Check.bench(2, 2);
        int code = Check.code(p, 0, "S0#0 S1#1");
        for (int register = 0; register < 3; register++) {
            int r = register;
            Check.due(15, "nothing was run", Check.NONE, () -> p.word(r));
        }
        Check.due(16, "nothing was run", Check.NONE, p::carry);
        Check.due(17, "nothing was run", Check.NONE, () -> p.cell(0));
        Check.due(17, "nothing was run, and no cell", Check.NONE, () -> p.cell(2));
        int[] odd = {-1, 3, Integer.MIN_VALUE, Integer.MAX_VALUE};
        for (int o : odd) {
            Check.due(15, "register " + o + " and nothing was run", Check.INDEX, () -> p.word(o));
        }
        p.run(code, 1, 2, 3, true);
        for (int o : odd) {
            Check.due(15, "register " + o, Check.INDEX, () -> p.word(o));
        }
        for (int register = 0; register < 3; register++) {
            int r = register;
            Check.due(15, "register " + r, r + 1, () -> p.word(r));
        }
        Check.due(16, "the carry", true, p::carry);
        Check.due(17, "cell 0", 1, () -> p.cell(0));
        Check.due(17, "cell 1", 2, () -> p.cell(1));
        p.run(Check.code(p, 0, ""), 0, 0, 0, false);
        Check.due(16, "the carry of the last run", false, p::carry);
        Check.due(17, "cells are 0 ahead of each run", 0, () -> p.cell(0) + p.cell(1));
    }

    /** Which cells there are is told by the machine of the program that was run last. */
    private static void lastCells() {
        Peepholery p = new Peepholery();
        for (int cells = 0; cells <= 2; cells++) {
            p.machine(2, cells);
            p.program(cells);
        }
        for (int cells : new int[] {2, 0, 1, 2}) {
            p.run(cells, 0, 0, 0, false);
            for (int cell = -1; cell <= 3; cell++) {
                int c = cell;
                Object due = cell >= 0 && cell < cells ? (Object) 0 : Check.NONE;
                Check.due(17, "cell " + cell + " of " + cells, due, () -> p.cell(c));
            }
            Check.due(17, "far off", Check.NONE, () -> p.cell(Integer.MAX_VALUE));
            Check.due(17, "far off", Check.NONE, () -> p.cell(Integer.MIN_VALUE));
        }
    }

    private static void endlessStops() {
        Peepholery p = Check.bench(3, 1);
        int code = Check.code(p, 0, "m1#5 a0#2 S0#0 a2#1 m1#7 m2#7");
        p.loop(code, 1, 4, 0);
        Check.due(14, "odd words stay odd", -1, () -> p.run(code, 1, 0, 0, false));
        Check.due(15, "ahead of the part all is done", 5, () -> p.word(1));
        Check.due(15, "the part is done 8 times", 0, () -> p.word(2));
        Check.due(15, "the register as it was left", 1, () -> p.word(0));
        Check.due(17, "the cell as it was left", 1, () -> p.cell(0));
        Check.due(14, "even ones come to 0", 3, () -> p.run(code, 2, 0, 0, false));
        Check.due(15, "behind the part all is done", 7, () -> p.word(1));
        Check.due(15, "behind the part all is done", 7, () -> p.word(2));
    }

    /** Each method that takes what is live, at 0 and 31 (for targets 1 and 31), and just beyond. */
    private static void liveBounds() {
        Peepholery p = Check.bench(2, 1);
        int code = Check.code(p, 0, "m0#1 m0#1");
        int less = Check.code(p, 0, "m0#1");
        p.learn(code, less, 31);
        for (int live : new int[] {0, 31}) {
            Check.due(18, "live " + live, true, () -> p.areEqual(code, less, live));
            Check.due(19, "live " + live, -1, () -> p.differsAt(code, less, live));
            Check.due(20, "live " + live, live, () -> p.liveAt(code, 2, live));
            Check.due(21, "live " + live, live == 0 ? 1 : 0, () -> p.clean(Check.code(p, 0, "m0#1"), live));
            // Live 0, the empty one is equal; live 31, three are alike.
            Check.due(25, "live " + live, live == 0 ? 1 : 3, () -> p.front(code, live));
            Check.due(39, "live " + live, live == 0 ? 1 : 2, () -> p.learn(code, less, live));
            Check.due(41, "live " + live, 0, () -> p.matches(0, code, live));
            Check.due(42, "live " + live, 1, () -> p.rewrite(Check.code(p, 0, "m0#1 m0#1"), live));
        }
        Check.due(26, "live 1", 0, () -> p.target(code, 1));
        Check.due(26, "live 31", 1, () -> p.target(code, 31));
        Check.due(26, "live 0", Check.ARGUMENT, () -> p.target(code, 0));
        for (int odd : new int[] {-1, 32, Integer.MIN_VALUE, Integer.MAX_VALUE}) {
            Check.due(18, "live " + odd, Check.ARGUMENT, () -> p.areEqual(code, less, odd));
            Check.due(19, "live " + odd, Check.ARGUMENT, () -> p.differsAt(code, less, odd));
            Check.due(20, "live " + odd, Check.ARGUMENT, () -> p.liveAt(code, 2, odd));
            Check.due(21, "live " + odd, Check.ARGUMENT, () -> p.clean(code, odd));
            Check.due(25, "live " + odd, Check.ARGUMENT, () -> p.front(code, odd));
            Check.due(26, "live " + odd, Check.ARGUMENT, () -> p.target(code, odd));
            Check.due(39, "live " + odd, Check.ARGUMENT, () -> p.learn(code, less, odd));
            Check.due(41, "live " + odd, Check.ARGUMENT, () -> p.matches(0, code, odd));
            Check.due(42, "live " + odd, Check.ARGUMENT, () -> p.rewrite(code, odd));
        }
        Check.due(21, "nothing was taken out", 2, () -> p.length(code));
    }

    /** 8192 states are 13 bits: those of words, and the carry. */
    private static void stateLimits() {
        String[] codes = {"", "c0", "c0 c1", "c0 c1 c2"};
        for (int bits = 2; bits <= 5; bits++) {
            for (int cells = 0; cells <= 2; cells++) {
                Peepholery p = Check.bench(bits, cells);
                for (int named = 0; named <= 3; named++) {
                    int code = Check.code(p, 0, codes[named]);
                    boolean isTooMuch = bits * (named + cells) > 12;
                    String what = bits + " bits, " + cells + " cells, " + named + " registers";
                    int live = (1 << named) - 1;
                    int none = 0;
                    Check.due(18, what, isTooMuch ? Check.UNSUPPORTED : (Object) true, () -> p.areEqual(code, code, 0));
                    Check.due(19, what, isTooMuch ? Check.UNSUPPORTED : (Object) (-1), () -> p.differsAt(code, code, 8));
                    Check.due(18, what + " live", isTooMuch ? Check.UNSUPPORTED : (Object) true,
                            () -> p.areEqual(none, none, live));
                    Check.due(19, what + " live", isTooMuch ? Check.UNSUPPORTED : (Object) (-1),
                            () -> p.differsAt(none, none, live));
                }
            }
        }
    }

    /** Two registers are as many as 5 bits bear: a third one is too many, in whichever way it is named. */
    private static void waysToName() {
        Peepholery p = Check.bench(5, 0);
        int two = Check.code(p, 0, "c0 c1");
        int own = Check.code(p, 0, "c0 c0");
        int third = Check.code(p, 0, "c2");
        int source = Check.code(p, 0, "a0r2");
        int looped = Check.code(p, 0, "c0");
        p.loop(looped, 0, 1, 2);
        int constant = Check.code(p, 0, "a0#2");
        Check.due(18, "the two are named", true, () -> p.areEqual(two, two, 27));
        Check.due(18, "a constant is no register", false, () -> p.areEqual(two, constant, 3));
        Check.due(18, "by the d of the other one", Check.UNSUPPORTED, () -> p.areEqual(two, third, 1));
        Check.due(18, "by the d of the first one", Check.UNSUPPORTED, () -> p.areEqual(third, two, 1));
        Check.due(18, "by a source of the other one", Check.UNSUPPORTED, () -> p.areEqual(two, source, 1));
        Check.due(18, "by a source of the first one", Check.UNSUPPORTED, () -> p.areEqual(source, two, 1));
        Check.due(18, "by the loop of the other one", Check.UNSUPPORTED, () -> p.areEqual(two, looped, 1));
        Check.due(18, "by the loop of the first one", Check.UNSUPPORTED, () -> p.areEqual(looped, two, 1));
        Check.due(18, "by what is live", Check.UNSUPPORTED, () -> p.areEqual(two, two, 4));
        Check.due(19, "by what is live", Check.UNSUPPORTED, () -> p.differsAt(two, two, 4));
        Check.due(19, "by the loop", Check.UNSUPPORTED, () -> p.differsAt(two, looped, 1));
        Check.due(18, "each alone is not", true, () -> p.areEqual(own, own, 5));
    }

    /** A difference in the very first state, or in the very last one alone. */
    private static void lastStates() {
        Peepholery q = Check.bench(2, 0);
        int one = Check.code(q, 0, "m0#1");
        int own = Check.code(q, 0, "n0#1");
        Check.due(19, "the first state", 0, () -> q.differsAt(one, own, 1));
        Check.due(18, "the first state", false, () -> q.areEqual(one, own, 1));
        Check.due(19, "the second state, where the carry is 1", 1, () -> q.differsAt(own, Check.code(q, 0, "n0#1 s1r1"), 9));
        int[][] sizes = {{2, 4 * 4 * 4 * 2}, {3, 8 * 8 * 8 * 2}, {4, 8192}};
        for (int[] s : sizes) {
            Peepholery p = Check.bench(s[0], 0);
            // The carry is made only if all registers are the greatest word, and the carry was there.
            int code = Check.code(p, 0, "n0r1 n0r2 u0#0");
            int none = Check.code(p, 0, "n0r1 n0r2 a0#0");
            Check.due(19, "the last state on " + s[0] + " bits", s[1] - 1, () -> p.differsAt(code, none, 8));
            Check.due(18, "the last state on " + s[0] + " bits", false, () -> p.areEqual(code, none, 8));
            Check.due(19, "the second to last one of the register 0", true, () -> p.differsAt(code, none, 1) < s[1] - 1);
        }
        Peepholery p = Check.bench(3, 2);
        // Two registers and two cells: the cell 1 is the last thing.
        int code = Check.code(p, 0, "n0r1 L1#0 n0r1 L1#1 n0r1 u0#0");
        int none = Check.code(p, 0, "n0r1 L1#0 n0r1 L1#1 n0r1 a0#0");
        Check.due(19, "8192 states with cells", 8191, () -> p.differsAt(code, none, 8));
    }

    /** Each bit of each thing, changed alone: unlike if the thing is live, and in nothing else. */
    private static void liveThings(int bits) {
        for (int bit = 0; bit < bits; bit++) {
            for (int i = 0; i < 3; i++) {
                unlike(bits, 0, "x" + i + "#" + (1 << bit), "m" + i + "r" + i, 1 << i);
            }
        }
        unlike(bits, 0, "a0#0", "m0r0", 8);
        unlike(bits, 1, "s0r0 m0#0", "m0#0", 8);
        for (int bit = 0; bit < bits; bit++) {
            String stored = "m0#" + (1 << bit) + " S0#0 m0#0";
            unlike(bits, 1, stored, "m0#0 S0#0 m0#0", 16);
            if (bits < 5) {
                // Two cells and a register of 5 bits are too many states, whatever is asked.
                unlike(bits, 2, stored, "m0#0 S0#0 m0#0", 16);
                unlike(bits, 2, stored.replace("S0#0", "S0#1"), "m0#0 S0#1 m0#0", 16);
            }
        }
    }

    private static void unlike(int bits, int cells, String code, String other, int changed) {
        Peepholery p = Check.bench(bits, cells);
        int first = Check.code(p, 0, code);
        int second = Check.code(p, 0, other);
        int named = (changed & 7) != 0 ? changed : 1;
        for (int live = 0; live <= 31; live++) {
            int l = live;
            int states = bits * (Integer.bitCount((live | named) & 7) + cells);
            Object due = states > 12 ? Check.UNSUPPORTED : (Object) ((live & changed) == 0);
            Check.due(18, code + " on " + bits + " bits, live is " + live, due, () -> p.areEqual(first, second, l));
        }
    }

    private static void endlessOnes() {
        Peepholery p = Check.bench(2, 0);
        int odd = Check.code(p, 0, "a0#2 a1#1");
        p.loop(odd, 0, 2, 0);
        int never = Check.code(p, 0, "m1r1");
        p.loop(never, 0, 1, 0);
        int zero = Check.code(p, 0, "m0#0");
        Check.due(18, "both endless, ends unlike", false, () -> p.areEqual(odd, never, 1));
        // By the registers 0 and 1: register 0 is 2, where one comes to 0 and the other one is endless.
        Check.due(19, "one endless alone", 16, () -> p.differsAt(odd, never, 1));
        Check.due(19, "one endless alone, nothing live", 16, () -> p.differsAt(odd, never, 0));
        Check.due(19, "turned about", 16, () -> p.differsAt(never, odd, 1));
        Check.due(19, "endless, and not", 8, () -> p.differsAt(never, zero, 0));
        int other = Check.code(p, 0, "m1#3");
        p.loop(other, 0, 1, 0);
        Check.due(18, "both endless in the same states, ends unlike", true, () -> p.areEqual(never, other, 15));
    }

    private static void liveIndices() {
        Peepholery p = Check.bench(2, 0);
        int[] lengths = {0, 1, 12};
        for (int length : lengths) {
            int code = Check.code(p, 0, Check.times("g0", length));
            Check.due(20, "behind all " + length, 8, () -> p.liveAt(code, length, 8));
            Check.due(20, "ahead of all " + length, length == 0 ? 8 : 9, () -> p.liveAt(code, 0, 8));
            for (int odd : new int[] {-1, length + 1, Integer.MIN_VALUE, Integer.MAX_VALUE}) {
                Check.due(20, "place " + odd + " of " + length, Check.INDEX, () -> p.liveAt(code, odd, 8));
            }
        }
        int code = Check.code(p, 0, Check.times("g0", 11) + " m0r1");
        Check.due(20, "ahead of the last one", 2, () -> p.liveAt(code, 11, 1));
        Check.due(20, "behind the last one", 1, () -> p.liveAt(code, 12, 1));
        Check.due(20, "ahead of the one ahead of it", 3, () -> p.liveAt(code, 10, 1));
    }

    /** Each letter by each quirk: what is live ahead, behind it 0, 1, 8, 16, 31. */
    private static void liveAhead() {
        Object[][] due = {
            {"m0r1", 2, 2, 10, 18, 30}, {"m0r0", 1, 1, 9, 17, 31}, {"m0#1", 0, 0, 8, 16, 30}, {"a0r1", 3, 3, 3, 19, 23},
            {"a0#1", 1, 1, 1, 17, 23}, {"u0r1", 11, 11, 11, 27, 31}, {"u0#1", 9, 9, 9, 25, 31}, {"s0r1", 3, 3, 3, 19, 23},
            {"p0r1", 3, 3, 11, 19, 31}, {"p0#1", 1, 1, 9, 17, 31}, {"g0", 1, 1, 9, 17, 31}, {"L0r1", 18, 18, 26, 18, 30},
            {"L0r0", 17, 17, 25, 17, 31}, {"L0#1", 16, 16, 24, 16, 30}, {"S0r1", 19, 19, 27, 19, 31},
            {"S0#1", 17, 17, 25, 17, 31},
        };
        Object[][] byQuirk0 = {{"n0r1", 3, 3, 3, 19, 23}, {"o0r1", 3, 3, 3, 19, 23}, {"x0r1", 3, 3, 3, 19, 23},
            {"c0", 1, 1, 1, 17, 23}, {"x0r0", 1, 1, 1, 17, 23}};
        Object[][] notByQuirk0 = {{"n0r1", 3, 3, 11, 19, 31}, {"o0r1", 3, 3, 11, 19, 31}, {"x0r1", 3, 3, 11, 19, 31},
            {"c0", 1, 1, 9, 17, 31}, {"x0r0", 1, 1, 9, 17, 31}};
        Object[][] byQuirk1 = {{"l0", 1, 1, 9, 17, 31}, {"r0", 1, 1, 9, 17, 31}};
        Object[][] notByQuirk1 = {{"l0", 1, 1, 1, 17, 23}, {"r0", 1, 1, 1, 17, 23}};
        for (int quirks = 0; quirks < 4; quirks++) {
            ahead(due, quirks);
            ahead(quirks % 2 == 1 ? byQuirk0 : notByQuirk0, quirks);
            ahead(quirks / 2 == 1 ? byQuirk1 : notByQuirk1, quirks);
        }
    }

    private static Peepholery quirky(int quirks) {
        Peepholery p = Check.bench(2, 2);
        p.quirk(0, 0, quirks % 2 == 1);
        p.quirk(0, 1, quirks / 2 == 1);
        return p;
    }

    private static void ahead(Object[][] due, int quirks) {
        Peepholery p = quirky(quirks);
        int[] behind = {0, 1, 8, 16, 31};
        for (Object[] d : due) {
            int code = Check.code(p, 0, (String) d[0]);
            for (int i = 0; i < behind.length; i++) {
                int live = behind[i];
                Check.due(20, d[0] + " with quirks " + quirks + ", behind it " + live, d[i + 1], () -> p.liveAt(code, 0, live));
            }
        }
    }

    /** What each letter makes: it is dead if all but that is live, and not if one of that is. */
    private static void dead() {
        for (int quirks = 0; quirks < 4; quirks++) {
            String carrying = "aus" + (quirks % 2 == 1 ? "noxc" : "") + (quirks / 2 == 0 ? "lr" : "");
            for (char letter : "mausnoxcglrpLS".toCharArray()) {
                Peepholery p = quirky(quirks);
                int made = letter == 'S' ? 16 : carrying.indexOf(letter) >= 0 ? 10 : 2;
                String what = letter + " with quirks " + quirks;
                Check.due(21, what + " is dead", 1, () -> p.clean(Check.code(p, 0, letter + "1#0"), 31 - made));
                for (int bit = 1; bit <= 16; bit *= 2) {
                    int live = bit;
                    int due = (made & bit) != 0 ? 0 : 1;
                    Check.due(21, what + ", live is " + bit, due, () -> p.clean(Check.code(p, 0, letter + "1#0"), live));
                }
            }
        }
    }

    private static void deadChains() {
        Peepholery p = Check.bench(2, 1);
        int none = Check.code(p, 0, "");
        Check.due(21, "nothing to take", 0, () -> p.clean(none, 0));
        int all = Check.code(p, 0, Check.times("S0#0", 12));
        Check.due(21, "nothing is dead", 0, () -> p.clean(all, 16));
        Check.due(21, "all 12 are", 12, () -> p.clean(all, 15));
        Check.due(11, "none is left", 0, () -> p.length(all));
        Check.due(21, "and none is dead", 0, () -> p.clean(all, 15));
        Object[][] due = {
            {"m0#1 m1r0 m2r1 m0#0", 1, 3, "m0#0"}, {"m0#1 m1r0 m2r1 m0#0", 4, 1, "m0#1 m1r0 m2r1"},
            {"m1#1 a1#1 m2r1 m2#0", 4, 3, "m2#0"}, {"a1#1 u0#0 a2#1", 4, 2, "a2#1"},
            {"a1#1 u0#0 a2#1", 1, 1, "a1#1 u0#0"}, {"a1#1 a2#1 u0#0", 1, 1, "a2#1 u0#0"},
            {"S1#0 L2#0 m2#1", 4, 2, "m2#1"}, {"S1#0 S0#0 L2#0", 4, 0, "S1#0 S0#0 L2#0"}, {"m0#1 m0r0", 1, 0, "m0#1 m0r0"},
            {"c0 c0 m0#3", 1, 2, "m0#3"}, {"m0#3 c1 c1", 1, 2, "m0#3"},
        };
        for (Object[] d : due) {
            int code = Check.code(p, 0, (String) d[0]);
            Check.due(21, d[0] + ", live is " + d[1], d[2], () -> p.clean(code, (int) d[1]));
            Check.due(21, d[0] + ", live is " + d[1], d[3], () -> Check.told(p, code));
        }
        int looped = Check.code(p, 0, "m0#1");
        p.loop(looped, 0, 1, 1);
        Check.due(21, "with a loop", Check.UNSUPPORTED, () -> p.clean(looped, 0));
        Check.due(20, "with a loop", Check.UNSUPPORTED, () -> p.liveAt(looped, 0, 0));
        Check.due(20, "with a loop, behind all", Check.UNSUPPORTED, () -> p.liveAt(looped, 1, 0));
        Check.due(11, "with a loop", 1, () -> p.length(looped));
    }
}
