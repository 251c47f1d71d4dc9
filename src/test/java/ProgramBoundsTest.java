/** The bounds of programs, instructions and loops: promises 6 to 13. */
public final class ProgramBoundsTest {
    private static final String LETTERS = "mausnoxcglrpLS";

    private ProgramBoundsTest() {
    }

    public static void main(String[] arguments) {
        manyPrograms();
        numbersOfPrograms();
        registers();
        constants();
        withoutMeaning();
        instructions();
        dropping();
        indices();
        parts();
        loopsOnce();
        unrollings();
        unrolledLengths();
        noRoomToUnroll();
        Check.end("ProgramBoundsTest");
    }

    private static void manyPrograms() {
        Peepholery p = Check.bench(2, 0);
        p.machine(3, 0);
        for (int i = 0; i < 24; i++) {
            int number = i;
            Check.due(6, "program " + i, i, () -> p.program(number % 2));
        }
        Check.due(6, "a 25th program", Check.STATE, () -> p.program(0));
        Check.due(6, "a 25th program of the other machine", Check.STATE, () -> p.program(1));
        Check.due(7, "the 24th is empty and there", 1, () -> p.add(23, 'm', 0, true, 7));
        Check.due(7, "and of the machine 1, the one ahead of the machine 0", Check.ARGUMENT,
                () -> p.add(22, 'm', 0, true, 7));
    }

    /** Each method that takes a program: the last one there, and just beyond it. */
    private static void numbersOfPrograms() {
        Peepholery p = Check.bench(2, 0);
        for (int odd : new int[] {-1, 0, Integer.MIN_VALUE, Integer.MAX_VALUE}) {
            noProgram(p, odd);
        }
        p.program(0);
        int last = p.program(0);
        Check.formula(p, 0, "A");
        p.learn(Check.code(p, 0, "m0r0"), last, 1);
        for (int odd : new int[] {-1, 3, Integer.MIN_VALUE, Integer.MAX_VALUE}) {
            noProgram(p, odd);
            Check.due(18, "program 0 and " + odd, Check.INDEX, () -> p.areEqual(0, odd, 1));
            Check.due(19, "program 0 and " + odd, Check.INDEX, () -> p.differsAt(0, odd, 1));
            Check.due(32, "program " + odd, Check.INDEX, () -> p.fits(odd, 0));
            Check.due(39, "program 0 and " + odd, Check.INDEX, () -> p.learn(0, odd, 1));
            Check.due(41, "program " + odd, Check.INDEX, () -> p.matches(0, odd, 1));
        }
        Check.due(11, "the last one", 1, () -> p.length(2));
        Check.due(32, "the last one", true, () -> p.fits(2, 0));
        Check.due(41, "the last one", 0, () -> p.matches(0, 2, 1));
    }

    private static void noProgram(Peepholery p, int odd) {
        String what = "program " + odd;
        Check.due(7, what, Check.INDEX, () -> p.add(odd, 'm', 0, true, 0));
        Check.due(8, what, Check.INDEX, () -> p.drop(odd));
        Check.due(9, what, Check.INDEX, () -> p.loop(odd, 0, 1, 0));
        Check.due(10, what, Check.INDEX, () -> p.unroll(odd, 1));
        Check.due(11, what, Check.INDEX, () -> p.length(odd));
        Check.due(12, what, Check.INDEX, () -> p.letterAt(odd, 0));
        Check.due(13, what, Check.INDEX, () -> p.restAt(odd, 0));
        Check.due(14, what, Check.INDEX, () -> p.run(odd, 0, 0, 0, false));
        Check.due(18, what, Check.INDEX, () -> p.areEqual(odd, 0, 1));
        Check.due(19, what, Check.INDEX, () -> p.differsAt(odd, 0, 1));
        Check.due(20, what, Check.INDEX, () -> p.liveAt(odd, 0, 1));
        Check.due(21, what, Check.INDEX, () -> p.clean(odd, 1));
        Check.due(22, what, Check.INDEX, () -> p.size(odd));
        Check.due(23, what, Check.INDEX, () -> p.cycles(odd));
        Check.due(24, what, Check.INDEX, () -> p.energy(odd));
        Check.due(25, what, Check.INDEX, () -> p.front(odd, 1));
        Check.due(26, what, Check.INDEX, () -> p.target(odd, 1));
        Check.due(38, what, Check.INDEX, () -> p.stays(odd));
        Check.due(39, what, Check.INDEX, () -> p.learn(odd, 0, 1));
        Check.due(42, what, Check.INDEX, () -> p.rewrite(odd, 1));
    }

    private static void registers() {
        for (char letter : LETTERS.toCharArray()) {
            Peepholery p = Check.bench(3, 1);
            p.program(0);
            boolean hasSource = "cglr".indexOf(letter) < 0;
            for (int odd : new int[] {-1, 3, Integer.MIN_VALUE, Integer.MAX_VALUE}) {
                Check.due(7, letter + " of register " + odd, Check.ARGUMENT, () -> p.add(0, letter, odd, false, 0));
                Check.due(7, letter + " of register " + odd, Check.ARGUMENT, () -> p.add(0, letter, odd, true, 0));
                if (hasSource) {
                    Check.due(7, letter + " with register " + odd, Check.ARGUMENT, () -> p.add(0, letter, 0, false, odd));
                }
            }
            Check.due(11, "refused ones add nothing", 0, () -> p.length(0));
            for (int i = 0; i < 9; i++) {
                int d = i / 3;
                int s = i % 3;
                Check.due(7, letter + " with registers " + d + " " + s, i + 1, () -> p.add(0, letter, d, false, s));
                Check.due(13, letter + " rest", 100 * d + (hasSource ? s : 0), () -> p.restAt(0, 3 * d + s));
            }
        }
    }

    /** Constants up to the modulus less 1, where the same number may be a register or not. */
    private static void constants() {
        for (int bits = 2; bits <= 5; bits++) {
            int modulus = (int) Math.pow(2, bits);
            for (char letter : "mausnoxpLS".toCharArray()) {
                Peepholery p = Check.bench(bits, 2);
                p.program(0);
                for (int odd : new int[] {-1, modulus, Integer.MIN_VALUE, Integer.MAX_VALUE}) {
                    Check.due(7, letter + " with constant " + odd + " on " + bits + " bits", Check.ARGUMENT,
                            () -> p.add(0, letter, 0, true, odd));
                }
                Check.due(7, letter + " with constant 0", 1, () -> p.add(0, letter, 2, true, 0));
                Check.due(7, letter + " with the greatest constant", 2, () -> p.add(0, letter, 0, true, modulus - 1));
                Check.due(13, letter + " with constant 0", 250, () -> p.restAt(0, 0));
                Check.due(13, letter + " with the greatest constant", 50 + modulus - 1, () -> p.restAt(0, 1));
                Check.due(7, letter + " with constant 3", 3, () -> p.add(0, letter, 1, true, 3));
                Check.due(7, letter + " with register 3", Check.ARGUMENT, () -> p.add(0, letter, 1, false, 3));
            }
        }
    }

    /** For c, g, l and r the source is the register 0, whatever is told. */
    private static void withoutMeaning() {
        for (char letter : "cglr".toCharArray()) {
            Peepholery p = Check.bench(2, 0);
            p.program(0);
            int next = 0;
            for (int s : new int[] {0, 2, 3, -1, 4, Integer.MIN_VALUE, Integer.MAX_VALUE, 50}) {
                boolean isConstant = next % 2 == 1;
                int at = next;
                next++;
                Check.due(7, letter + " told " + s, next, () -> p.add(0, letter, 1, isConstant, s));
                Check.due(12, letter + " told " + s, letter, () -> p.letterAt(0, at));
                Check.due(13, letter + " told " + s, 100, () -> p.restAt(0, at));
            }
            Peepholery q = Check.bench(5, 0);
            int one = Check.code(q, 0, letter + "0");
            q.add(one, letter, 0, false, 2);
            Check.due(18, letter + " names no source: two registers are named", true, () -> q.areEqual(one, one, 2));
            Check.due(18, "three would be too many", Check.UNSUPPORTED, () -> q.areEqual(one, one, 6));
        }
    }

    private static void instructions() {
        Peepholery p = Check.bench(2, 0);
        p.program(0);
        p.program(0);
        for (int i = 1; i <= 12; i++) {
            Check.due(7, "instruction " + i, i, () -> p.add(0, 'a', 0, true, 1));
            Check.due(11, "instruction " + i, i, () -> p.length(0));
        }
        Check.due(7, "a 13th instruction", Check.STATE, () -> p.add(0, 'a', 0, true, 1));
        Check.due(7, "a 13th instruction", Check.STATE, () -> p.add(0, 'c', 0, true, 1));
        Check.due(11, "12 still", 12, () -> p.length(0));
        Check.due(7, "the other program has room", 1, () -> p.add(1, 'a', 0, true, 1));
        Check.due(8, "one off", 11, () -> p.drop(0));
        Check.due(7, "room for one again", 12, () -> p.add(0, 's', 0, true, 1));
        Check.due(7, "and for no more", Check.STATE, () -> p.add(0, 's', 0, true, 1));
        Check.due(14, "all 12 are done", 0, () -> p.run(0, 0, 0, 0, false));
        Check.due(15, "11 sums of 1, and 1 less", 10 % 4, () -> p.word(0));
    }

    private static void dropping() {
        Peepholery p = Check.bench(2, 0);
        int full = Check.code(p, 0, Check.times("a0#1", 12));
        for (int left = 11; left >= 0; left--) {
            Check.due(8, left + " left", left, () -> p.drop(full));
        }
        Check.due(8, "none left", Check.NONE, () -> p.drop(full));
        Check.due(8, "none left still", Check.NONE, () -> p.drop(full));
        Check.due(11, "none left", 0, () -> p.length(full));
        Check.due(7, "the first one anew", 1, () -> p.add(full, 'c', 2, false, 0));
        p.loop(full, 0, 1, 0);
        Check.due(8, "a loop", Check.UNSUPPORTED, () -> p.drop(full));
        Check.due(11, "it is there still", 1, () -> p.length(full));
        int short0 = Check.code(p, 0, "s0#1 m1#1 m2#3");
        p.drop(short0);
        p.loop(short0, 0, 1, 0);
        Check.due(14, "what was taken off is not done", 0, () -> p.run(short0, 0, 0, 1, false));
        Check.due(15, "what was taken off is not done", 1, () -> p.word(2));
    }

    private static void indices() {
        Peepholery p = Check.bench(5, 0);
        int full = Check.code(p, 0, "m2#31 " + Check.times("a0#1", 10) + " c1");
        int none = Check.code(p, 0, "");
        Check.due(12, "first", 'm', () -> p.letterAt(full, 0));
        Check.due(13, "first, the greatest rest", 281, () -> p.restAt(full, 0));
        Check.due(12, "last", 'c', () -> p.letterAt(full, 11));
        Check.due(13, "last", 100, () -> p.restAt(full, 11));
        for (int odd : new int[] {-1, 12, Integer.MIN_VALUE, Integer.MAX_VALUE}) {
            Check.due(12, "instruction " + odd, Check.INDEX, () -> p.letterAt(full, odd));
            Check.due(13, "instruction " + odd, Check.INDEX, () -> p.restAt(full, odd));
        }
        Check.due(12, "of an empty program", Check.INDEX, () -> p.letterAt(none, 0));
        Check.due(13, "of an empty program", Check.INDEX, () -> p.restAt(none, 0));
        p.drop(full);
        Check.due(12, "the one that was taken off", Check.INDEX, () -> p.letterAt(full, 11));
        Check.due(13, "the one that was taken off", Check.INDEX, () -> p.restAt(full, 11));
        Check.due(13, "least rest", 0, () -> p.restAt(Check.code(p, 0, "m0r0"), 0));
    }

    private static void parts() {
        Peepholery p = Check.bench(2, 0);
        int[] lengths = {0, 1, 12};
        for (int length : lengths) {
            int code = Check.code(p, 0, Check.times("a0#1", length));
            int[][] odd = {{-1, 1}, {0, length + 1}, {length, length}, {length, length + 1}, {0, 0}, {1, 0}, {length, 0},
                {Integer.MIN_VALUE, 1}, {0, Integer.MAX_VALUE}, {Integer.MIN_VALUE, Integer.MAX_VALUE},
                {Integer.MAX_VALUE, Integer.MIN_VALUE}, {0, Integer.MIN_VALUE}, {-1, -1}, {-1, 0}};
            for (int[] o : odd) {
                Check.due(9, "of " + length + " the part " + o[0] + " to " + o[1], Check.ARGUMENT,
                        () -> p.loop(code, o[0], o[1], 0));
            }
            for (int register : new int[] {-1, 3, Integer.MIN_VALUE, Integer.MAX_VALUE}) {
                Check.due(9, "register " + register, Check.ARGUMENT, () -> p.loop(code, 0, length, register));
            }
            Check.due(9, "refused loops are not there", length == 0 ? Check.NONE : (Object) (length - 1), () -> p.drop(code));
        }
        int[][] good = {{0, 1}, {0, 12}, {11, 12}, {5, 6}, {1, 11}};
        for (int[] g : good) {
            for (int register = 0; register < 3; register++) {
                int r = register;
                int code = Check.code(p, 0, Check.times("a0#1", 12));
                Check.due(9, "the part " + g[0] + " to " + g[1], g[1] - g[0], () -> p.loop(code, g[0], g[1], r));
            }
        }
    }

    private static void loopsOnce() {
        Peepholery p = Check.bench(2, 0);
        int code = Check.code(p, 0, "s0#1 a1#1");
        p.loop(code, 0, 2, 0);
        Check.due(9, "a second loop", Check.UNSUPPORTED, () -> p.loop(code, 0, 1, 0));
        Check.due(9, "the same loop again", Check.UNSUPPORTED, () -> p.loop(code, 0, 2, 0));
        Check.due(7, "nothing is added", Check.UNSUPPORTED, () -> p.add(code, 'm', 0, true, 0));
        Check.due(14, "the first one stands", 3, () -> p.run(code, 3, 0, 0, false));
        Check.due(15, "with its whole part", 3, () -> p.word(1));
    }

    private static void unrollings() {
        Peepholery p = Check.bench(2, 0);
        int code = Check.code(p, 0, "m1#2 s0#1 m2#3");
        Check.due(10, "without a loop", Check.UNSUPPORTED, () -> p.unroll(code, 1));
        Check.due(10, "without a loop", Check.UNSUPPORTED, () -> p.unroll(code, 0));
        p.loop(code, 1, 2, 0);
        for (int odd : new int[] {-1, 5, Integer.MIN_VALUE, Integer.MAX_VALUE}) {
            Check.due(10, odd + " times", Check.ARGUMENT, () -> p.unroll(code, odd));
        }
        for (int times = 0; times <= 4; times++) {
            int t = times;
            String due = ("m1#2 " + Check.times("s0#1", times)).trim() + " m2#3";
            Check.due(10, times + " times", times + 1, () -> p.unroll(code, t));
            Check.due(10, times + " times", due, () -> Check.told(p, t + 1));
            Check.due(10, "it has no loop", 0, () -> p.run(t + 1, 3, 0, 0, false));
            Check.due(7, "it has no loop", times + 3, () -> p.add(t + 1, 'c', 0, false, 0));
        }
        Check.due(10, "the other one is as it was", "m1#2 s0#1 m2#3", () -> Check.told(p, code));
        Check.due(10, "with its loop", 3, () -> p.run(code, 3, 0, 0, false));
    }

    /** Up to 12 instructions, with whatever stands round the part. */
    private static void unrolledLengths() {
        int[][] lengths = {{12, 12}, {12, 1}, {6, 6}, {6, 3}, {3, 3}, {4, 3}, {9, 1}, {10, 1}, {8, 4}, {7, 5}, {5, 4}, {11, 1}};
        for (int[] l : lengths) {
            Peepholery p = Check.bench(2, 0);
            int code = Check.code(p, 0, Check.times("a0#1", l[0]));
            int from = (l[0] - l[1]) / 2;
            p.loop(code, from, from + l[1], 0);
            int next = 1;
            for (int times = 0; times <= 4; times++) {
                int t = times;
                int due = l[0] + l[1] * (times - 1);
                Object number = due <= 12 ? (Object) next : Check.UNSUPPORTED;
                Check.due(10, l[1] + " of " + l[0] + ", " + times + " times", number, () -> p.unroll(code, t));
                if (due <= 12) {
                    int made = next;
                    Check.due(11, l[1] + " of " + l[0] + ", " + times + " times", due, () -> p.length(made));
                    next++;
                }
            }
        }
    }

    private static void noRoomToUnroll() {
        Peepholery p = Check.bench(2, 0);
        int code = Check.code(p, 0, "s0#1");
        p.loop(code, 0, 1, 0);
        for (int i = 1; i < 24; i++) {
            int due = i;
            Check.due(10, "program " + i, due, () -> p.unroll(code, 1));
        }
        Check.due(10, "a 25th program", Check.STATE, () -> p.unroll(code, 1));
        Check.due(6, "a 25th program", Check.STATE, () -> p.program(0));
        Check.due(11, "the last one", 1, () -> p.length(23));
    }
}
