/** Promises 26 to 33: code, formulas and tables as targets, what fits them, and what can be taken for them. */
public final class TargetTest {
    private TargetTest() {
    }

    public static void main(String[] arguments) {
        code();
        typing();
        formulas();
        worths();
        numbers();
        tables();
        wiping();
        fitting();
        choosing();
        Check.end("TargetTest");
    }

    private static void code() {
        Peepholery p = Check.bench(3, 0);
        int code = Check.code(p, 0, "a0#1");
        Check.due(26, "first", 0, () -> p.target(code, 1));
        Check.due(26, "second", 1, () -> p.target(code, 31));
        Check.due(26, "nothing live", Check.ARGUMENT, () -> p.target(code, 0));
        Check.due(26, "out of range", Check.ARGUMENT, () -> p.target(code, 32));
        Check.due(26, "no program first", Check.INDEX, () -> p.target(1, 0));
        p.drop(code);
        Check.write(p, code, "m0#5");
        int as = Check.code(p, 0, "a0#1");
        Check.due(26, "the code as it was then", true, () -> p.fits(as, 0));
        Check.due(26, "not as it is", false, () -> p.fits(code, 0));
        p.loop(code, 0, 1, 0);
        Check.due(26, "a loop", Check.UNSUPPORTED, () -> p.target(code, 1));
        for (int i = 2; i < 10; i++) {
            p.target(as, 1);
        }
        Check.due(26, "eleventh", Check.STATE, () -> p.target(as, 1));
        Check.due(26, "a loop first", Check.UNSUPPORTED, () -> p.target(code, 1));
        p.type('A');
        Check.due(28, "eleventh", Check.STATE, () -> p.formula(0));
        Check.due(30, "a short row first", Check.UNSUPPORTED, () -> p.table(0));
        for (int i = 0; i < 8; i++) {
            p.put(i);
        }
        Check.due(30, "eleventh", Check.STATE, () -> p.table(0));
        Check.due(31, "text and row are there still", 9, p::wipe);
    }

    private static void typing() {
        Peepholery p = Check.bench(2, 0);
        for (char sign : new char[] {'D', 'a', ' ', '/', ':', '%', '@', (char) 0, (char) 255, '!'}) {
            Check.due(27, "no sign " + sign, Check.ARGUMENT, () -> p.type(sign));
        }
        String signs = "ABC0123456789+-&|^*~";
        for (int i = 0; i < 20; i++) {
            char sign = signs.charAt(i);
            Check.due(27, "sign " + sign, i + 1, () -> p.type(sign));
        }
        Check.due(27, "too many", Check.STATE, () -> p.type('A'));
        Check.due(27, "no sign first", Check.ARGUMENT, () -> p.type('D'));
    }

    private static void formulas() {
        Peepholery p = Check.bench(2, 0);
        Check.due(28, "empty", Check.UNSUPPORTED, () -> p.formula(0));
        Check.due(28, "no machine first", Check.INDEX, () -> p.formula(1));
        for (String odd : new String[] {"+", "A+", "AB", "~", "A~+", "AAAAAAAAA++++++++", "AB+-", "A~B"}) {
            for (char sign : odd.toCharArray()) {
                p.type(sign);
            }
            Check.due(28, odd, Check.UNSUPPORTED, () -> p.formula(0));
            Check.due(28, odd + " is there still", odd.length(), p::wipe);
        }
        Check.due(28, "8 on the stack", 0, () -> Check.formula(p, 0, "AAAAAAAA+++++++"));
        Check.due(28, "is emptied", 0, p::wipe);
        Check.due(28, "next", 1, () -> Check.formula(p, 0, "1"));
    }

    /** The word that fits a formula in the state 5, 3, 6, told by the code that sets it from there. */
    private static void worths() {
        Object[][] due = {
            {"A", "m0r0"}, {"B", "m0r1"}, {"7", "m0#3"}, {"9", "m0#1"}, {"AB+", "a0r1"}, {"AB-", "s0r1"},
            {"BA-", "s0r1 g0"}, {"AB&", "n0r1"}, {"AB|", "o0r1"}, {"AB^", "x0r1"}, {"AB*", "p0r1"}, {"A~", "c0"},
            {"ABC+*", "a1r2 p0r1"}, {"AB+C-", "a0r1 s0r2"}, {"A2*1+", "l0 a0#1"},
        };
        for (Object[] d : due) {
            Peepholery p = Check.bench(2, 0);
            Check.formula(p, 0, (String) d[0]);
            int code = Check.code(p, 0, (String) d[1]);
            Check.due(28, d[0] + " is " + d[1], true, () -> p.fits(code, 0));
            p.add(code, 'x', 0, true, 1);
            Check.due(28, d[0] + " is nothing else", false, () -> p.fits(code, 0));
        }
    }

    private static void numbers() {
        Peepholery p = Check.bench(2, 0);
        Check.due(29, "out of range", Check.ARGUMENT, () -> p.put(32));
        Check.due(29, "out of range", Check.ARGUMENT, () -> p.put(-1));
        for (int i = 0; i < 32; i++) {
            int number = i;
            Check.due(29, "number", i + 1, () -> p.put(number));
        }
        Check.due(29, "too many", Check.STATE, () -> p.put(0));
        Check.due(29, "out of range first", Check.ARGUMENT, () -> p.put(32));
    }

    private static void tables() {
        Peepholery p = Check.bench(2, 0);
        p.machine(5, 0);
        Check.due(30, "empty", Check.UNSUPPORTED, () -> p.table(0));
        Check.due(30, "no machine first", Check.INDEX, () -> p.table(2));
        p.put(3);
        p.put(0);
        p.put(1);
        Check.due(30, "too few", Check.UNSUPPORTED, () -> p.table(0));
        p.put(4);
        Check.due(30, "not below the modulus", Check.UNSUPPORTED, () -> p.table(0));
        p.wipe();
        for (int number : new int[] {4, 0, 0, 0}) {
            p.put(number);
        }
        Check.due(30, "the first one is not below the modulus", Check.UNSUPPORTED, () -> p.table(0));
        p.wipe();
        Check.due(30, "taken", 0, () -> Check.table(p, 0, 3, 0, 1, 2));
        Check.due(30, "is emptied", 0, p::wipe);
        int less = Check.code(p, 0, "s0#1");
        int more = Check.code(p, 0, "a0#1");
        Check.due(30, "it tells the register 0", true, () -> p.fits(less, 0));
        Check.due(30, "it tells the register 0", false, () -> p.fits(more, 0));
        for (int i = 0; i < 5; i++) {
            p.put(0);
        }
        Check.due(30, "too many", Check.UNSUPPORTED, () -> p.table(0));
        for (int i = 5; i < 32; i++) {
            p.put(31);
        }
        Check.due(30, "32 numbers", 1, () -> p.table(1));
    }

    private static void wiping() {
        Peepholery p = Check.bench(2, 0);
        Check.due(31, "nothing", 0, p::wipe);
        p.type('A');
        p.type('+');
        p.put(31);
        Check.due(31, "signs and numbers", 3, p::wipe);
        Check.due(31, "both are empty", 0, p::wipe);
        Check.due(27, "typed anew", 1, () -> p.type('B'));
        Check.due(29, "put anew", 1, () -> p.put(1));
    }

    private static void fitting() {
        Peepholery p = Check.bench(3, 1);
        p.machine(3, 1);
        int sum = Check.code(p, 0, "a0r1");
        int target = p.target(sum, 9);
        int moved = Check.code(p, 0, "m2r1 a0r2");
        int other = Check.code(p, 0, "a0#0 u0r1");
        Check.due(32, "by other registers", true, () -> p.fits(moved, target));
        Check.due(32, "with the carry", true, () -> p.fits(other, target));
        int quiet = Check.code(p, 0, "m2r1 a2r0 m0r2 x0#0");
        Check.due(32, "carry kept", true, () -> p.fits(quiet, target));
        int spoilt = Check.code(p, 0, "a0r1 l2");
        Check.due(32, "only the carry is wrong", false, () -> p.fits(spoilt, target));
        int looped = Check.code(p, 0, "a0#1 s1#1");
        p.loop(looped, 0, 2, 1);
        int count = p.target(Check.code(p, 0, "a0r1 m1#0"), 3);
        Check.due(32, "a loop may fit", true, () -> p.fits(looped, count));
        int endless = Check.code(p, 0, "a0#2");
        p.loop(endless, 0, 1, 0);
        int zero = p.target(Check.code(p, 0, "m0#0"), 1);
        Check.due(32, "endless ones never fit", false, () -> p.fits(endless, zero));
        int cells = p.target(Check.code(p, 0, "S0#0"), 16);
        int stores = Check.code(p, 0, "S0#0 c0");
        Check.due(32, "cells", true, () -> p.fits(stores, cells));
        Check.due(32, "cells", false, () -> p.fits(sum, cells));
        int foreign = Check.code(p, 1, "");
        Check.due(32, "unlike machines", Check.UNSUPPORTED, () -> p.fits(foreign, zero));
        Check.due(32, "no program", Check.INDEX, () -> p.fits(99, zero));
        Check.due(32, "no target", Check.INDEX, () -> p.fits(foreign, 9));
        Peepholery q = Check.bench(5, 0);
        Check.formula(q, 0, "AB+");
        int two = Check.code(q, 0, "a0r1");
        int three = Check.code(q, 0, "a0r1 m2#0");
        Check.due(32, "two registers", true, () -> q.fits(two, 0));
        Check.due(32, "too many states", Check.UNSUPPORTED, () -> q.fits(three, 0));
    }

    private static void choosing() {
        Peepholery p = Check.bench(3, 1);
        Check.formula(p, 0, "A");
        // Eight letters with the register 0 and 0, 1, 7 as sources, four without sources.
        Check.due(33, "register 0, three constants", 8 * 4 + 4, () -> p.choices(0));
        Check.formula(p, 0, "B5*9+");
        // 9 is 1 here.
        Check.due(33, "two registers, four constants", 2 * (8 * 6 + 4), () -> p.choices(1));
        int code = Check.code(p, 0, "a1#6 S1#2");
        int live = p.target(code, 4);
        Check.due(33, "what is live is named", 3 * (8 * 8 + 4), () -> p.choices(live));
        p.allow(0, 'L', true);
        Check.due(33, "L", 8 * 4 + 4 + 4, () -> p.choices(0));
        for (char letter : "mausnoxp".toCharArray()) {
            p.allow(0, letter, false);
        }
        Check.due(33, "letters without sources", 4 + 4, () -> p.choices(0));
        for (char letter : "cglrL".toCharArray()) {
            p.allow(0, letter, false);
        }
        Check.due(33, "none", 0, () -> p.choices(0));
        Check.due(33, "no target", Check.INDEX, () -> p.choices(3));
        Check.due(33, "no target", Check.INDEX, () -> p.choices(-1));
        Peepholery q = Check.bench(2, 0);
        Check.table(q, 0, 2, 2, 2, 2);
        Check.due(33, "constants of tables do not count", 8 * 4 + 4, () -> q.choices(0));
    }
}
