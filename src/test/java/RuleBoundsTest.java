/** The bounds of rules, rewritings and windows: promises 39 to 45. */
public final class RuleBoundsTest {
    private RuleBoundsTest() {
    }

    public static void main(String[] arguments) {
        manyRules();
        numbersOfRules();
        lessSize();
        refusedRules();
        learnLimits();
        lastStates();
        generalConstants();
        windowPlaces();
        longRules();
        renamings();
        kindsOfSources();
        generalOnes();
        liveBehind();
        rewriteLengths();
        fiftyTimes();
        foreignRegisters();
        editions();
        goneForGood();
        constantsOfProofs();
        windowLengths();
        unlikeWindows();
        mostWindows();
        Check.end("RuleBoundsTest");
    }

    /** A bench with one rule on the machine 0, which has one cell. */
    private static Peepholery ruled(String first, String second, int live) {
        Peepholery p = Check.bench(3, 1);
        p.learn(Check.code(p, 0, first), Check.code(p, 0, second), live);
        return p;
    }

    private static void matches(Peepholery p, String code, int live, Object due) {
        int program = Check.code(p, 0, code);
        Check.due(41, code + ", live is " + live, due, () -> p.matches(0, program, live));
        Object applied = due instanceof Integer ? (Object) true : false;
        Check.due(42, code + ", live is " + live, applied, () -> p.rewrite(program, live) > 0);
    }

    private static void manyRules() {
        Peepholery p = Check.bench(2, 0);
        p.machine(2, 0);
        int code = Check.code(p, 0, "m0r0");
        int none = Check.code(p, 0, "");
        int other = Check.code(p, 1, "c0 c0");
        int empty = Check.code(p, 1, "");
        for (int i = 0; i < 12; i++) {
            int number = i;
            Check.due(43, "there is no rule " + i + " yet", Check.INDEX, () -> p.isValid(number));
            Check.due(39, "rule " + i, i, () -> number % 2 == 0 ? p.learn(code, none, 1) : p.learn(other, empty, 1));
            Check.due(43, "rule " + i, true, () -> p.isValid(number));
        }
        Check.due(39, "a 13th rule", Check.STATE, () -> p.learn(code, none, 1));
        Check.due(39, "a 13th rule of the other machine", Check.STATE, () -> p.learn(other, empty, 1));
        Check.due(39, "a 13th rule that is none", Check.UNSUPPORTED, () -> p.learn(none, code, 1));
        Check.due(44, "the last one", true, () -> p.prove(11));
        Check.due(41, "the last one", 0, () -> p.matches(11, other, 1));
    }

    private static void numbersOfRules() {
        Peepholery p = Check.bench(2, 0);
        int code = Check.code(p, 0, "m0r0");
        int none = Check.code(p, 0, "");
        for (int round = 0; round < 2; round++) {
            for (int odd : new int[] {-1, round, Integer.MIN_VALUE, Integer.MAX_VALUE}) {
                Check.due(40, "rule " + odd, Check.INDEX, () -> p.generals(odd));
                Check.due(41, "rule " + odd, Check.INDEX, () -> p.matches(odd, code, 1));
                Check.due(43, "rule " + odd, Check.INDEX, () -> p.isValid(odd));
                Check.due(44, "rule " + odd, Check.INDEX, () -> p.prove(odd));
            }
            p.learn(code, none, 1);
        }
        Check.due(40, "the last rule", 0, () -> p.generals(1));
        Check.due(41, "the last rule", 0, () -> p.matches(1, code, 1));
    }

    /** Less size, as costs are then: not less energy, cycles or fewer instructions. */
    private static void lessSize() {
        Peepholery p = Check.bench(3, 0);
        int code = Check.code(p, 0, "m0r0");
        int other = Check.code(p, 0, "n0r0");
        Check.due(39, "as great", Check.UNSUPPORTED, () -> p.learn(code, other, 7));
        p.tell(0, 'm', 2, 1, 0, 0);
        Check.due(39, "greater by one", Check.UNSUPPORTED, () -> p.learn(other, code, 7));
        Check.due(39, "less by one", 0, () -> p.learn(code, other, 7));
        p.tell(0, 'm', 1, 9, 0, 99);
        Check.due(39, "more cycles and energy, as great", Check.UNSUPPORTED, () -> p.learn(code, other, 7));
        Check.due(43, "the rule stands though sizes are others", true, () -> p.isValid(0));
        Check.due(41, "the rule stands though sizes are others", 0, () -> p.matches(0, code, 7));
        p.tell(0, 'm', 9, 1, 0, 1);
        int many = Check.code(p, 0, Check.times("n0r0", 8));
        int more = Check.code(p, 0, Check.times("n0r0", 9));
        Check.due(39, "eight for one of size 9", 1, () -> p.learn(code, many, 7));
        Check.due(39, "nine for one of size 9", Check.UNSUPPORTED, () -> p.learn(code, more, 7));
        int none = Check.code(p, 0, "");
        Check.due(39, "none for one", 2, () -> p.learn(other, none, 7));
        Check.due(39, "none for none", Check.UNSUPPORTED, () -> p.learn(none, none, 7));
    }

    private static void refusedRules() {
        Peepholery p = Check.bench(3, 0);
        p.machine(3, 0);
        int code = Check.code(p, 0, "m0#0");
        int none = Check.code(p, 0, "");
        int foreign = Check.code(p, 1, "");
        int looped = Check.code(p, 0, "m0r0");
        p.loop(looped, 0, 1, 0);
        int both = Check.code(p, 0, "m0r0 m0r0");
        p.loop(both, 0, 1, 0);
        Check.due(39, "not equal", Check.UNSUPPORTED, () -> p.learn(code, none, 1));
        Check.due(39, "equal in what is live", 0, () -> p.learn(code, none, 30));
        Check.due(39, "another machine", Check.UNSUPPORTED, () -> p.learn(code, foreign, 30));
        Check.due(39, "a loop, the first one", Check.UNSUPPORTED, () -> p.learn(looped, none, 0));
        Check.due(39, "a loop, the second one", Check.UNSUPPORTED, () -> p.learn(both, looped, 0));
        Check.due(39, "a loop alone", Check.UNSUPPORTED, () -> p.learn(code, looped, 0));
        Check.due(39, "itself", Check.UNSUPPORTED, () -> p.learn(code, code, 1));
        Check.due(39, "the next rule", 1, () -> p.learn(code, none, 0));
    }

    private static void learnLimits() {
        for (int bits = 2; bits <= 5; bits++) {
            for (int cells = 0; cells <= 2; cells++) {
                Peepholery p = Check.bench(bits, cells);
                String[] codes = {"m0r0", "m0r0 m1r1", "m0r0 m1r1 m2r2"};
                int none = Check.code(p, 0, "");
                int next = 0;
                for (int i = 0; i < 3; i++) {
                    int code = Check.code(p, 0, codes[i]);
                    boolean isTooMuch = bits * (i + 1 + cells) > 12;
                    Object due = isTooMuch ? Check.UNSUPPORTED : (Object) next;
                    next += isTooMuch ? 0 : 1;
                    int live = (2 << i) - 1 | 24;
                    String what = bits + " bits, " + cells + " cells, " + (i + 1) + " registers";
                    Check.due(39, what, due, () -> p.learn(code, none, live));
                }
            }
        }
    }

    /** Unlike in the first or in the last state alone. */
    private static void lastStates() {
        Peepholery p = Check.bench(4, 0);
        int code = Check.code(p, 0, "n0r1 n0r2 u0#0");
        int last = Check.code(p, 0, "n0r1 n0r2");
        Check.due(39, "the carry of the last state is unlike", Check.UNSUPPORTED, () -> p.learn(code, last, 8));
        Check.due(39, "the register is unlike in the second state", Check.UNSUPPORTED, () -> p.learn(code, last, 1));
        Check.due(39, "nothing else is", 0, () -> p.learn(code, last, 6));
        int first = Check.code(p, 0, "m0#1 m0#1");
        int own = Check.code(p, 0, "o0#1");
        Check.due(39, "all states but those of 0 and 1 are unlike", Check.UNSUPPORTED, () -> p.learn(first, own, 1));
    }

    private static void generalConstants() {
        Object[][] due = {
            {"m0r0", "", 1, 0}, {"a0#0", "", 1, 0}, {"a0#7 a0#1", "", 1, 0}, {"x0#0 x0#0", "", 1, 1}, {"x0#7 x0#7", "", 1, 1},
            {"n0#7", "", 1, 0}, {"o0#0", "", 1, 0}, {"m0#0 m0#7", "m0#7", 1, 2}, {"m0#0 m0#0", "m0#0", 1, 1},
            {"m0#1 m0#2 m0#3", "m0#3", 1, 3}, {"m0#1 m0#2 m0#3", "m0#3", 0, 3}, {"m0#1 m1#1", "m0#1", 1, 1},
            {"S0#0 L0#0", "S0#0", 1, 1}, {"x0#0 m1#1", "m1#1", 3, 1}, {"x0#0 m1#1 a1#0", "m1#1", 3, 1},
            {"a0#4 a0#4", "", 1, 0}, {"m0#1 p0#1", "m0#1", 1, 0}, {"m0#0 p0#0", "m0#0", 1, 0},
            {"m0#2 n0#1", "m0#0", 1, 0}, {"m0#3 n0#4", "m0#0", 1, 0}, {"m0#6 o0#1", "m0#7", 1, 0},
            {"n0#0 a0#1", "s0r0", 8, 1},
            {"m0#0 m1#0 m2#0 m0#1 m1#2 m2#3 a0#4 a0#5 a0#6 a0#7", "m0#7 m1#2 m2#3", 7, 4},
        };
        for (Object[] d : due) {
            Peepholery p = Check.bench(3, 1);
            int first = Check.code(p, 0, (String) d[0]);
            int second = Check.code(p, 0, (String) d[1]);
            Check.due(39, d[0] + " is " + d[1], 0, () -> p.learn(first, second, (int) d[2]));
            Check.due(40, "constants of " + d[0], d[3], () -> p.generals(0));
        }
        for (int bits = 2; bits <= 5; bits++) {
            Peepholery r = Check.bench(bits, 0);
            int least = Check.code(r, 0, "a0#0 o0#0 x0#0");
            int most = Check.code(r, 0, "n0#" + ((1 << bits) - 1));
            int dropped = Check.code(r, 0, "m0r0 x1#1 x1#1 x1#2");
            r.drop(dropped);
            int none = r.program(0);
            r.learn(least, none, 1);
            r.learn(most, none, 1);
            r.learn(dropped, none, 3);
            Check.due(40, "0 on " + bits + " bits", 0, () -> r.generals(0));
            Check.due(40, "the greatest constant on " + bits + " bits", 0, () -> r.generals(1));
            Check.due(40, "what was taken off does not count", 1, () -> r.generals(2));
        }
        Peepholery q = Check.bench(5, 0);
        int many = Check.code(q, 0, "m0#0 m0#31 m0#3 m0#4 m0#5 m0#6 m0#7 m0#8 m0#9 m0#10 m0#11 m0#12");
        int last = Check.code(q, 0, "m0#12");
        q.learn(many, last, 1);
        Check.due(40, "twelve", 12, () -> q.generals(0));
        q.learn(Check.code(q, 0, "x0#31 x0#31"), Check.code(q, 0, ""), 1);
        int greatest = Check.code(q, 0, "x1#0 x1#0 x1#31 x1#31 x1#7 x1#8");
        Check.due(42, "from the least constant to the greatest one", 2, () -> q.rewrite(greatest, 2));
        Check.due(42, "the others are unlike", "x1#7 x1#8", () -> Check.told(q, greatest));
    }

    /** From the first window of a program of 12 to the last one. */
    private static void windowPlaces() {
        Peepholery p = ruled("c0 g0", "a0#1", 1);
        for (int at = 0; at <= 10; at++) {
            String code = (Check.times("m2#0", at) + " c1 g1 " + Check.times("m2#1", 10 - at)).trim();
            int program = Check.code(p, 0, code);
            int due = at;
            Check.due(41, "the window at " + at + " of 12", due, () -> p.matches(0, program, 7));
        }
        matches(p, "c0 g0", 1, 0);
        matches(p, "c0", 1, Check.NONE);
        matches(p, "g0", 1, Check.NONE);
        matches(p, "", 1, Check.NONE);
        matches(p, "m1#0 c0", 1, Check.NONE);
        matches(p, "g0 c0", 1, Check.NONE);
        matches(p, "c0 c0 g0", 1, 1);
    }

    /** A first one of 12 instructions matches the whole program alone. */
    private static void longRules() {
        String whole = Check.times("c0", 12);
        Peepholery p = ruled(whole, "", 1);
        matches(p, Check.times("c2", 12), 4, 0);
        matches(p, Check.times("c2", 11), 4, Check.NONE);
        matches(p, Check.times("c2", 11) + " c1", 4, Check.NONE);
        matches(p, "c1 " + Check.times("c2", 11), 4, Check.NONE);
        matches(p, Check.times("c2", 11) + " g2", 4, Check.NONE);
        int program = Check.code(p, 0, whole);
        Check.due(42, "all is taken", 1, () -> p.rewrite(program, 1));
        Check.due(11, "none is left", 0, () -> p.length(program));
        Check.due(42, "nothing more", 0, () -> p.rewrite(program, 1));
    }

    /** All renamings of three registers, and what is none. */
    private static void renamings() {
        for (int a = 0; a < 3; a++) {
            for (int b = 0; b < 3; b++) {
                for (int c = 0; c < 3; c++) {
                    Peepholery p = Check.bench(2, 0);
                    p.learn(Check.code(p, 0, "m0r0 n1r2 m0r0"), Check.code(p, 0, "n1r2 m0r0"), 7);
                    int code = Check.code(p, 0, "m" + a + "r" + a + " n" + b + "r" + c + " m" + a + "r" + a);
                    boolean isOne = a != b && b != c && a != c;
                    String what = "registers " + a + b + c;
                    Check.due(41, what, isOne ? (Object) 0 : Check.NONE, () -> p.matches(0, code, 7));
                    Check.due(42, what, isOne ? 1 : 0, () -> p.rewrite(code, 7));
                    if (isOne) {
                        String due = "n" + b + "r" + c + " m" + a + "r" + a;
                        Check.due(42, what, due, () -> Check.told(p, code));
                    }
                }
            }
        }
    }

    private static void kindsOfSources() {
        Peepholery p = ruled("m1r0 m1r0", "m1r0", 3);
        matches(p, "m0r2 m0r2", 7, 0);
        matches(p, "m0#2 m0#2", 7, Check.NONE);
        matches(p, "m0r2 m0#2", 7, Check.NONE);
        Peepholery q = ruled("m1#0 m1#0", "m1#0", 3);
        matches(q, "m0#2 m0#2", 7, 0);
        matches(q, "m0r2 m0r2", 7, Check.NONE);
        matches(q, "m0#0 m0r0", 7, Check.NONE);
        // The source of no meaning is the register 0, which is no part of the renaming.
        Peepholery r = ruled("g1 g1", "", 2);
        matches(r, "g0 g0", 1, 0);
        matches(r, "g2 g2", 4, 0);
        matches(r, "g2 g0", 4, Check.NONE);
        Peepholery s = ruled("m1r0 g1 g1", "m1r0", 3);
        matches(s, "m0r2 g0 g0", 7, 0);
    }

    /** A constant that is not general, and one that is, wherever they are. */
    private static void generalOnes() {
        Peepholery p = ruled("x0#2 m1#0 x0#2 n1#0", "m1#0", 3);
        Check.due(40, "the constants 0 and 2", 2, () -> p.generals(0));
        matches(p, "x0#5 m1#0 x0#5 n1#0", 3, 0);
        matches(p, "x0#5 m1#5 x0#5 n1#5", 3, 0);
        matches(p, "x0#5 m1#0 x0#4 n1#0", 3, Check.NONE);
        matches(p, "x0#0 m1#0 x0#0 n1#0", 3, 0);
        matches(p, "x0#2 m1#2 x0#2 n1#0", 3, Check.NONE);
        Peepholery q = ruled("a0#3 a0#5", "", 1);
        Check.due(40, "none", 0, () -> q.generals(0));
        matches(q, "a2#3 a2#5", 4, 0);
        matches(q, "a2#5 a2#3", 4, Check.NONE);
        matches(q, "a2#3 a2#4", 4, Check.NONE);
        matches(q, "a2#2 a2#6", 4, Check.NONE);
        Peepholery r = ruled("m0#7 m0#1", "m0#1", 1);
        int code = Check.code(r, 0, "m2#4 m2#0");
        Check.due(42, "two general ones", 1, () -> r.rewrite(code, 4));
        Check.due(42, "each as it is there", "m2#0", () -> Check.told(r, code));
    }

    /** Each thing that is changed, live behind the window, and live for the rule, or not. */
    private static void liveBehind() {
        String[] made = {"m0#0", "m1#0", "m2#0", "s0r0 s0r0", "S0#0"};
        int[] changes = {1, 2, 4, 9, 16};
        for (int i = 0; i < made.length; i++) {
            for (int live = 0; live <= 31; live++) {
                for (int bit = 1; bit <= 16; bit *= 2) {
                    Peepholery p = Check.bench(2, 1);
                    int first = Check.code(p, 0, made[i] + " " + made[i]);
                    int second = Check.code(p, 0, made[i]);
                    p.learn(first, second, live);
                    boolean isSpoilt = (changes[i] & bit & ~live) != 0;
                    int b = bit;
                    String what = made[i] + " live " + live + ", behind it " + bit;
                    Check.due(41, what, isSpoilt ? Check.NONE : (Object) 0, () -> p.matches(0, first, b));
                }
            }
        }
        // What is changed by the second one alone.
        Peepholery p = Check.bench(2, 0);
        p.tell(0, 'g', 9, 1, 0, 1);
        p.learn(Check.code(p, 0, "g0"), Check.code(p, 0, "c0 a0#1"), 1);
        matches(p, "g1", 2, 0);
        matches(p, "g1", 10, Check.NONE);
        matches(p, "g1 s0r0", 11, 0);
        matches(p, "g1 u0r0", 3, Check.NONE);
        // What is changed by the first one alone.
        Peepholery q = ruled("a0#1 a0#7", "", 1);
        matches(q, "a0#1 a0#7", 9, Check.NONE);
        matches(q, "a0#1 a0#7 a1#0", 11, 0);
    }

    /** What a rule makes longer is applied as long as there are at most 12. */
    private static void rewriteLengths() {
        for (int length = 1; length <= 12; length++) {
            Peepholery p = Check.bench(2, 0);
            p.tell(0, 'g', 9, 1, 0, 1);
            p.learn(Check.code(p, 0, "g0"), Check.code(p, 0, "c0 a0#1"), 1);
            int code = Check.code(p, 0, (Check.times("m1#0", length - 1) + " g0").trim());
            int due = length < 12 ? 1 : 0;
            int l = length;
            Check.due(41, "of " + length, length < 12 ? (Object) (length - 1) : Check.NONE, () -> p.matches(0, code, 3));
            Check.due(42, "of " + length, due, () -> p.rewrite(code, 3));
            Check.due(11, "of " + length, l + due, () -> p.length(code));
        }
        Peepholery p = Check.bench(2, 0);
        p.tell(0, 'g', 9, 1, 0, 1);
        p.learn(Check.code(p, 0, "g0"), Check.code(p, 0, "x0#0 x0#0 c0 s0#1 c0 s0#1 c0 s0#3"), 1);
        int five = Check.code(p, 0, Check.times("g0", 5));
        int six = Check.code(p, 0, Check.times("g0", 6));
        Check.due(42, "five and seven more, and no more behind that", 1, () -> p.rewrite(five, 1));
        Check.due(11, "five and seven more", 12, () -> p.length(five));
        Check.due(42, "six and seven more are too many", 0, () -> p.rewrite(six, 1));
        Check.due(11, "six still", 6, () -> p.length(six));
    }

    /** Two rules that undo each other are applied 50 times, no less and no more. */
    private static void fiftyTimes() {
        Peepholery p = Check.bench(3, 0);
        p.tell(0, 'a', 2, 1, 0, 1);
        p.learn(Check.code(p, 0, "a0#1"), Check.code(p, 0, "s0#7"), 1);
        p.tell(0, 's', 3, 1, 0, 1);
        p.learn(Check.code(p, 0, "s0#7"), Check.code(p, 0, "a0#1"), 1);
        int code = Check.code(p, 0, "a2#1");
        for (int i = 0; i < 3; i++) {
            Check.due(42, "50 times", 50, () -> p.rewrite(code, 4));
            Check.due(42, "an even number", "a2#1", () -> Check.told(p, code));
        }
        int last = Check.code(p, 0, "g2 a2#1");
        p.tell(0, 'g', 4, 1, 0, 1);
        p.learn(Check.code(p, 0, "g0 a0#1"), Check.code(p, 0, "c0 a0#2"), 1);
        Check.due(42, "the lowest rule first, however often", 50, () -> p.rewrite(last, 4));
        Check.due(42, "the lowest rule first, however often", "g2 a2#1", () -> Check.told(p, last));
    }

    private static void foreignRegisters() {
        Peepholery p = Check.bench(2, 0);
        p.tell(0, 'c', 9, 1, 0, 1);
        p.learn(Check.code(p, 0, "c0"), Check.code(p, 0, "x0#3 m1r1"), 1);
        int code = Check.code(p, 0, "c0");
        Check.due(42, "a register that the first one does not have", 0, () -> p.rewrite(code, 1));
        Check.due(42, "the program is as it was", "c0", () -> Check.told(p, code));
        p.learn(Check.code(p, 0, "c0"), Check.code(p, 0, "x0#3 n0r1 x0#0 m0r0"), 0);
        Check.due(42, "as a source, too", 0, () -> p.rewrite(code, 0));
        p.learn(Check.code(p, 0, "c1"), Check.code(p, 0, "x1#3"), 2);
        Check.due(42, "the next rule is applied", 1, () -> p.rewrite(code, 1));
        Check.due(42, "the next rule is applied", "x0#3", () -> Check.told(p, code));
    }

    private static void editions() {
        Peepholery p = ruled("c0 c0", "", 1);
        p.machine(3, 0);
        int code = Check.code(p, 0, "c0 c0");
        p.quirk(0, 1, false);
        Check.due(43, "the quirk is as it was", true, () -> p.isValid(0));
        p.quirk(1, 1, true);
        Check.due(43, "a quirk of another machine", true, () -> p.isValid(0));
        p.quirk(0, 1, true);
        Check.due(43, "one more edition", false, () -> p.isValid(0));
        p.quirk(0, 1, false);
        Check.due(43, "as before, but two more", false, () -> p.isValid(0));
        Check.due(41, "an invalid one matches nothing", Check.NONE, () -> p.matches(0, code, 1));
        Check.due(42, "an invalid one is not applied", 0, () -> p.rewrite(code, 1));
        Check.due(39, "one learned now", 1, () -> p.learn(code, Check.code(p, 0, ""), 1));
        Check.due(43, "is valid", true, () -> p.isValid(1));
        Check.due(43, "the other one is not", false, () -> p.isValid(0));
        Check.due(44, "proved anew", true, () -> p.prove(0));
        Check.due(43, "proved anew", true, () -> p.isValid(0));
        Check.due(41, "it matches again", 0, () -> p.matches(0, code, 1));
        p.quirk(0, 0, true);
        Check.due(43, "one more edition", false, () -> p.isValid(0));
        Check.due(43, "for both", false, () -> p.isValid(1));
        Check.due(40, "general constants are told of invalid ones", 0, () -> p.generals(0));
        p.tell(0, 'c', 9, 9, 1, 99);
        p.allow(0, 'c', false);
        Check.due(44, "costs and searches are no matter", true, () -> p.prove(0));
    }

    private static void goneForGood() {
        Peepholery p = ruled("a0#3 s0#3 x0#0", "n0#7", 1);
        p.learn(Check.code(p, 0, "o0#0 u1#0"), Check.code(p, 0, "u1#0"), 3);
        p.quirk(0, 0, true);
        Check.due(44, "equal still", true, () -> p.prove(0));
        Check.due(44, "o takes the carry now", false, () -> p.prove(1));
        Check.due(43, "gone", false, () -> p.isValid(1));
        p.quirk(0, 0, false);
        Check.due(44, "gone for good", Check.UNSUPPORTED, () -> p.prove(1));
        Check.due(44, "gone for good, again", Check.UNSUPPORTED, () -> p.prove(1));
        Check.due(43, "gone for good", false, () -> p.isValid(1));
        Check.due(40, "its constants are told", 0, () -> p.generals(1));
        int code = Check.code(p, 0, "o0#0 u1#0");
        Check.due(41, "it matches nothing", Check.NONE, () -> p.matches(1, code, 3));
        Check.due(42, "it is not applied", 0, () -> p.rewrite(code, 3));
        Check.due(44, "the other one is not gone", true, () -> p.prove(0));
        Check.due(39, "it can be learned anew", 2, () -> p.learn(code, Check.code(p, 0, "u1#0"), 3));
    }

    /** Without the quirk 0 other constants than 0 make a carry, that n takes away with it. */
    private static void constantsOfProofs() {
        for (int quirk = 0; quirk < 2; quirk++) {
            Peepholery p = Check.bench(3, 0);
            p.quirk(0, 0, quirk == 1);
            int edition = p.quirk(0, 1, false);
            int first = Check.code(p, 0, "s2r2 a1#0 s1#0 n1#7");
            p.learn(first, Check.code(p, 0, "s2r2 n1#7"), 10);
            int learned = 1 + quirk;
            Check.due(40, "quirk " + quirk, learned, () -> p.generals(0));
            p.quirk(0, 0, quirk == 0);
            Check.due(44, "equal still", true, () -> p.prove(0));
            Check.due(40, "those that were learned, behind quirk " + quirk, learned, () -> p.generals(0));
            Check.due(41, "constants alike", 0, () -> p.matches(0, first, 10));
            int other = Check.code(p, 0, "s2r2 a1#3 s1#3 n1#5");
            Check.due(41, "constants unlike", quirk == 1 ? (Object) 0 : Check.NONE, () -> p.matches(0, other, 10));
            Check.due(3, "one more edition", edition + 1, () -> p.quirk(0, 1, false));
        }
    }

    private static void windowLengths() {
        Peepholery p = Check.bench(2, 0);
        for (int odd : new int[] {0, 5, -1, Integer.MIN_VALUE, Integer.MAX_VALUE}) {
            Check.due(45, "length " + odd, Check.ARGUMENT, () -> p.windows(0, odd));
        }
        for (int length = 1; length <= 4; length++) {
            int l = length;
            Check.due(45, "no programs", 0, () -> p.windows(0, l));
        }
        int code = p.program(0);
        String letters = "aspgaspgaspg";
        for (int count = 1; count <= 12; count++) {
            p.add(code, letters.charAt(count - 1), 0, true, 0);
            for (int length = 1; length <= 4; length++) {
                int l = length;
                // Four windows are unlike, then they come again.
                int due = Math.max(0, Math.min(4, count - length + 1));
                Check.due(45, length + " of " + count, due, () -> p.windows(0, l));
            }
        }
    }

    private static void unlikeWindows() {
        Object[][] due = {
            {"m0r1 m1r0", 2, 1}, {"m0r1 m1r0", 1, 1}, {"m0r0 m1r1 m2r2", 1, 1}, {"m0r0 m1r1 m2r2", 2, 1}, {"m0r1 m1r2 m2r0", 2, 1},
            {"m0#0 m1#0 m2#0", 1, 1}, {"m0#0 m0#1 m0#2", 1, 3}, {"m0#0 m0r0 m0r1", 1, 3}, {"c0 c1 c2", 1, 1}, {"c0 c1 c1", 2, 2},
            {"c0 g0 l0 r0", 1, 4}, {"a0r1 a0r2", 2, 1}, {"a0r1 a0r1 a0r2", 2, 2}, {"m2r1 m0r2 m1r0", 3, 1}, {"m1r0 m2r1 m0r2", 3, 1},
            {"a0#0 s0#0 a1#0 s1#0", 2, 2}, {"L0r1 L1r2 S0r0 S2r2", 1, 2}, {"c0 m1r0 c2 m2r0", 2, 3},
            {"m0#0 g0 m0#1 g0", 2, 3}, {"m0#0 S0#0 m0#1 S0#0", 2, 3}, {"m0r1 m2r2 m0r1 m0r0", 2, 3}, {"m0r1 m2r0 m0r1 m1r2", 2, 2},
            {"m0r1 m2r0 m0r1 m0r0", 2, 3}, {"m0#0 m0#0 m0#0 m0#1 m0#0", 4, 2}, {"c0 c0 c0 c1 c0", 4, 2},
        };
        for (Object[] d : due) {
            Peepholery p = Check.bench(2, 1);
            p.machine(2, 1);
            int code = Check.code(p, 0, (String) d[0]);
            Check.due(45, d[1] + " of " + d[0], d[2], () -> p.windows(0, (int) d[1]));
            Check.due(45, "of the other machine", 0, () -> p.windows(1, (int) d[1]));
            p.loop(code, 0, 1, 0);
            Check.due(45, "with a loop, " + d[1] + " of " + d[0], d[2], () -> p.windows(0, (int) d[1]));
            Check.code(p, 0, (String) d[0]);
            Check.due(45, "twice, " + d[1] + " of " + d[0], d[2], () -> p.windows(0, (int) d[1]));
        }
    }

    /** As many unlike windows as 24 programs of 12 instructions can have. */
    private static void mostWindows() {
        Peepholery p = Check.bench(5, 2);
        String letters = "mausnoxpLS";
        for (int i = 0; i < 24; i++) {
            p.program(0);
            for (int j = 0; j < 12; j++) {
                int number = 12 * i + j;
                p.add(i, letters.charAt(number / 32), number % 3, true, number % 32);
            }
        }
        Check.due(45, "288 of one", 288, () -> p.windows(0, 1));
        Check.due(45, "264 of two", 264, () -> p.windows(0, 2));
        Check.due(45, "240 of three", 240, () -> p.windows(0, 3));
        Check.due(45, "216 of four", 216, () -> p.windows(0, 4));
    }
}
