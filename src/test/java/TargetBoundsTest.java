/** The bounds of targets, texts, stacks, rows and choices: promises 26 to 33. */
public final class TargetBoundsTest {
    private static final String SIGNS = "ABC0123456789+-&|^*~";

    private TargetBoundsTest() {
    }

    public static void main(String[] arguments) {
        manyTargets();
        numbersOfTargets();
        asItIsThen();
        signs();
        longTexts();
        wipedSigns();
        tooFew();
        tooMany();
        stacks();
        for (int bits = 2; bits <= 5; bits++) {
            digits(bits);
            wraps(bits);
            rows(bits);
            lastWords(bits);
        }
        numbers();
        wipes();
        fitLimits();
        namesOfTargets();
        constantsTaken();
        mostChoices();
        Check.end("TargetBoundsTest");
    }

    /** Each kind of target may be the tenth one, and none the eleventh. */
    private static void manyTargets() {
        for (int kind = 0; kind < 3; kind++) {
            Peepholery p = Check.bench(2, 0);
            int code = Check.code(p, 0, "a0#1");
            for (int i = 0; i < 10; i++) {
                int k = kind;
                Check.due(26 + 2 * kind, "target " + i, i, () -> any(p, k, code));
            }
            Check.due(26, "an eleventh target", Check.STATE, () -> p.target(code, 1));
            p.type('A');
            Check.due(28, "an eleventh target", Check.STATE, () -> p.formula(0));
            for (int i = 0; i < 4; i++) {
                p.put(i);
            }
            Check.due(30, "an eleventh target", Check.STATE, () -> p.table(0));
            Check.due(28, "no machine ahead of ten targets", Check.INDEX, () -> p.formula(1));
            Check.due(30, "no machine ahead of ten targets", Check.INDEX, () -> p.table(1));
            Check.due(31, "text and row stay", 5, p::wipe);
            Check.due(33, "the tenth one", true, () -> p.choices(9) > 0);
            Check.due(33, "no eleventh one", Check.INDEX, () -> p.choices(10));
        }
    }

    private static int any(Peepholery p, int kind, int code) {
        return kind == 0 ? p.target(code, 1) : kind == 1 ? Check.formula(p, 0, "A") : Check.table(p, 0, 0, 1, 2, 3);
    }

    private static void numbersOfTargets() {
        Peepholery p = Check.bench(2, 0);
        int code = p.program(0);
        for (int round = 0; round < 2; round++) {
            for (int odd : new int[] {-1, 2 * round, Integer.MIN_VALUE, Integer.MAX_VALUE}) {
                Check.due(32, "target " + odd, Check.INDEX, () -> p.fits(code, odd));
                Check.due(33, "target " + odd, Check.INDEX, () -> p.choices(odd));
                Check.due(34, "target " + odd, Check.INDEX, () -> p.shortest(odd, 1));
                Check.due(35, "target " + odd, Check.INDEX, () -> p.walk(odd, 1, 1, 0));
                Check.due(36, "target " + odd, Check.INDEX, () -> p.constantFor(odd, 'a'));
            }
            Check.formula(p, 0, "1");
            Check.formula(p, 0, "A");
        }
        Check.due(32, "the last target", true, () -> p.fits(code, 3));
        Check.due(34, "the last target", 1, () -> p.shortest(3, 1));
        Check.due(36, "the last target", 0, () -> p.constantFor(3, 'a'));
    }

    private static void asItIsThen() {
        Peepholery p = Check.bench(2, 0);
        int code = Check.code(p, 0, Check.times("a0#1", 12));
        int target = p.target(code, 1);
        int none = Check.code(p, 0, "");
        Check.due(32, "12 instructions: 12 is 0 here", true, () -> p.fits(none, target));
        p.drop(code);
        Check.due(32, "one was taken off the program, not off the target", false, () -> p.fits(code, target));
        Check.due(32, "the target is as it was", true, () -> p.fits(none, target));
        p.loop(code, 0, 1, 0);
        Check.due(26, "with a loop", Check.UNSUPPORTED, () -> p.target(code, 1));
        Check.due(26, "the next one", 1, () -> p.target(none, 1));
    }

    private static void signs() {
        for (int number = 0; number < 300; number++) {
            char sign = (char) number;
            boolean isSign = SIGNS.indexOf(sign) >= 0;
            Check.due(27, "sign " + number, isSign ? (Object) 1 : Check.ARGUMENT, () -> new Peepholery().type(sign));
        }
        Check.due(27, "a sign far off", Check.ARGUMENT, () -> new Peepholery().type((char) 65535));
        Check.due(27, "a sign that looks alike", Check.ARGUMENT, () -> new Peepholery().type((char) (256 + 'A')));
    }

    private static void longTexts() {
        Peepholery p = Check.bench(2, 0);
        for (int i = 1; i <= 20; i++) {
            int due = i;
            Check.due(27, "sign " + i, due, () -> p.type(due == 1 ? 'A' : '~'));
        }
        Check.due(27, "a 21st sign", Check.STATE, () -> p.type('~'));
        Check.due(27, "a 21st sign, not known", Check.ARGUMENT, () -> p.type('!'));
        Check.due(28, "20 signs are a formula", 0, () -> p.formula(0));
        int turned = Check.code(p, 0, "c0");
        Check.due(32, "turned over 19 times", true, () -> p.fits(turned, 0));
        Check.due(27, "the text is empty", 1, () -> p.type('A'));
        Check.due(28, "one sign is a formula", 1, () -> p.formula(0));
        Check.due(28, "no sign is none", Check.UNSUPPORTED, () -> p.formula(0));
        // 20 signs that add up to ten of A.
        Check.due(28, "19 signs, ten numbers", 2, () -> Check.formula(p, 0, "AA+A+A+A+A+A+A+A+A+"));
        int ten = Check.code(p, 0, "a0r0");
        Check.due(32, "ten times is twice, modulo 4", true, () -> p.fits(ten, 2));
    }

    private static void refused(String text) {
        Peepholery p = Check.bench(2, 0);
        for (char sign : text.toCharArray()) {
            p.type(sign);
        }
        Check.due(28, text, Check.UNSUPPORTED, () -> p.formula(0));
        Check.due(31, text + " is there still", text.length(), p::wipe);
    }

    /** Signs that were wiped, or that a formula took, are no part of the next text. */
    private static void wipedSigns() {
        Peepholery p = Check.bench(3, 0);
        Check.formula(p, 0, "A");
        int alone = p.choices(0);
        for (char sign : "A5BC+++".toCharArray()) {
            p.type(sign);
        }
        p.wipe();
        Check.formula(p, 0, "A");
        Check.due(33, "behind signs that were wiped", alone, () -> p.choices(1));
        Check.formula(p, 0, "A5BC+++");
        Check.due(33, "more signs", true, () -> p.choices(2) > alone);
        Check.formula(p, 0, "A");
        Check.due(33, "behind signs of another formula", alone, () -> p.choices(3));
        int none = Check.code(p, 0, "");
        Check.due(32, "and so it is A alone", true, () -> p.fits(none, 3));
        for (int i = 0; i < 9; i++) {
            p.put(7);
        }
        p.wipe();
        Check.due(32, "numbers that were wiped", true, () -> p.fits(none, Check.table(p, 0, 0, 1, 2, 3, 4, 5, 6, 7)));
    }

    /** Each operator with one number too few, and with just enough. */
    private static void tooFew() {
        refused("");
        for (char operator : "+-&|^*".toCharArray()) {
            refused("" + operator);
            refused("A" + operator);
            refused("" + operator + "AB");
            refused("A" + operator + "B");
            refused("AB" + operator + operator);
            refused("A~" + operator);
            Peepholery p = Check.bench(2, 0);
            Check.due(28, "two numbers for " + operator, 0, () -> Check.formula(p, 0, "AB" + operator));
            Check.due(28, "three for two of " + operator, 1, () -> Check.formula(p, 0, "ABC" + operator + operator));
        }
        refused("~");
        refused("~A");
        refused("+A~");
        Peepholery p = Check.bench(2, 0);
        Check.due(28, "one for ~", 0, () -> Check.formula(p, 0, "A~"));
    }

    private static void tooMany() {
        refused("AB");
        refused("AB~");
        refused("A~B~");
        refused("ABC+");
        refused("01");
        refused("AAAAAAAA++++++");
    }

    /** Eight numbers are on the stack at most, wherever in the text. */
    private static void stacks() {
        refused("AAAAAAAAA");
        refused("AAAAAAAAA++++++++");
        refused("AAAAAAAA+AA++++++++");
        refused("AB+AAAAAAAA++++++++");
        refused("0123456789+++++++++");
        Peepholery p = Check.bench(3, 0);
        Check.due(28, "eight", 0, () -> Check.formula(p, 0, "AAAAAAAA+++++++"));
        Check.due(28, "eight, one turned over", 1, () -> Check.formula(p, 0, "AAAAAAAA~+++++++"));
        Check.due(28, "eight again", 2, () -> Check.formula(p, 0, "AAAAAAAA+A+++++++"));
        Check.due(28, "eight behind a sum", 3, () -> Check.formula(p, 0, "AB+AAAAAAA+++++++"));
        Check.due(32, "eight of A are 0", true, () -> p.fits(Check.code(p, 0, "m0#0"), 0));
        Check.due(32, "seven of A, and A turned over", true, () -> p.fits(Check.code(p, 0, "p0#6 s0#1"), 1));
        Check.due(32, "nine of A", true, () -> p.fits(Check.code(p, 0, "a0#0"), 2));
        Check.due(32, "eight of A, and B", true, () -> p.fits(Check.code(p, 0, "m0r1"), 3));
    }

    private static void digits(int bits) {
        int modulus = (int) Math.pow(2, bits);
        Peepholery p = Check.bench(bits, 0);
        for (int digit = 0; digit <= 9; digit++) {
            int code = Check.code(p, 0, "m0#" + digit % modulus);
            int target = Check.formula(p, 0, "" + digit);
            Check.due(32, digit + " on " + bits + " bits", true, () -> p.fits(code, target));
            p.add(code, 'a', 0, true, 1);
            Check.due(32, digit + " on " + bits + " bits is no more", false, () -> p.fits(code, target));
        }
    }

    private static void wraps(int bits) {
        int most = (int) Math.pow(2, bits) - 1;
        Object[][] due = {
            {"01-", "m0#" + most}, {"0~", "m0#" + most}, {"0~1+", "m0#0"}, {"0~0~*", "m0#1"}, {"0~2*", "m0#" + (most - 1)},
            {"A1+", "a0#1"}, {"A1-", "a0#" + most}, {"0A-", "g0"}, {"BA-", "s0r1 g0"}, {"AB-", "s0r1"},
        };
        Peepholery p = Check.bench(bits, 0);
        for (Object[] d : due) {
            int target = Check.formula(p, 0, (String) d[0]);
            int code = Check.code(p, 0, (String) d[1]);
            Check.due(32, d[0] + " on " + bits + " bits is " + d[1], true, () -> p.fits(code, target));
        }
        Check.due(28, "the lower one comes first", false, () -> p.fits(9, 8));
    }

    /** Rows of one number less, just as many, and one more; numbers at the modulus less 1, and at it. */
    private static void rows(int bits) {
        int modulus = (int) Math.pow(2, bits);
        Peepholery p = Check.bench(bits, 0);
        Check.due(30, "no numbers", Check.UNSUPPORTED, () -> p.table(0));
        for (int i = 0; i < modulus - 1; i++) {
            p.put(modulus - 1);
        }
        Check.due(30, "one number less than " + modulus, Check.UNSUPPORTED, () -> p.table(0));
        p.put(modulus - 1);
        Check.due(30, modulus + " numbers", 0, () -> p.table(0));
        Check.due(31, "the row is empty", 0, p::wipe);
        if (modulus < 32) {
            for (int i = 0; i <= modulus; i++) {
                p.put(0);
            }
            Check.due(30, "one number more than " + modulus, Check.UNSUPPORTED, () -> p.table(0));
            Check.due(31, "the row stays", modulus + 1, p::wipe);
            for (int odd : new int[] {0, modulus / 2, modulus - 1}) {
                for (int i = 0; i < modulus; i++) {
                    p.put(i == odd ? modulus : modulus - 1);
                }
                Check.due(30, "the number " + odd + " is the modulus", Check.UNSUPPORTED, () -> p.table(0));
                Check.due(31, "the row stays", modulus, p::wipe);
            }
        }
        int code = Check.code(p, 0, "m0#" + (modulus - 1));
        Check.due(32, "all are the greatest word", true, () -> p.fits(code, 0));
    }

    /** The table tells the last word, and the first one, like all others. */
    private static void lastWords(int bits) {
        int modulus = (int) Math.pow(2, bits);
        Peepholery p = Check.bench(bits, 0);
        for (int odd : new int[] {-1, 0, modulus / 2, modulus - 1}) {
            for (int i = 0; i < modulus; i++) {
                p.put(i == odd ? i ^ 1 : i);
            }
            int target = p.table(0);
            int code = Check.code(p, 0, "");
            Check.due(32, "unlike at " + odd, odd == -1, () -> p.fits(code, target));
        }
    }

    private static void numbers() {
        Peepholery p = new Peepholery();
        Check.due(29, "0", 1, () -> p.put(0));
        Check.due(29, "31", 2, () -> p.put(31));
        for (int odd : new int[] {-1, 32, Integer.MIN_VALUE, Integer.MAX_VALUE}) {
            Check.due(29, odd + "", Check.ARGUMENT, () -> p.put(odd));
        }
        for (int i = 3; i <= 32; i++) {
            int due = i;
            Check.due(29, "number " + i, due, () -> p.put(0));
        }
        Check.due(29, "a 33rd number", Check.STATE, () -> p.put(0));
        Check.due(29, "a 33rd number, out of range", Check.ARGUMENT, () -> p.put(-1));
        Check.due(31, "32 are there", 32, p::wipe);
    }

    private static void wipes() {
        Peepholery p = new Peepholery();
        Check.due(31, "none", 0, p::wipe);
        p.type('A');
        Check.due(31, "a sign", 1, p::wipe);
        p.put(1);
        Check.due(31, "a number", 1, p::wipe);
        for (int i = 0; i < 20; i++) {
            p.type('A');
        }
        for (int i = 0; i < 32; i++) {
            p.put(1);
        }
        Check.due(31, "as many as can be", 52, p::wipe);
        Check.due(31, "none again", 0, p::wipe);
        Check.due(27, "signs from 1 on", 1, () -> p.type('A'));
        Check.due(29, "numbers from 1 on", 1, () -> p.put(1));
    }

    /** States of the program and of the target together, 8192 of them and more. */
    private static void fitLimits() {
        for (int bits = 2; bits <= 5; bits++) {
            for (int cells = 0; cells <= 2; cells++) {
                Peepholery p = Check.bench(bits, cells);
                String[] texts = {"A", "AB+A+", "ABC++"};
                String[] codes = {"c0", "c0 c1", "c0 c1 c2"};
                for (int i = 0; i < 3; i++) {
                    boolean isTooMuch = bits * (i + 1 + cells) > 12;
                    Object due = isTooMuch ? Check.UNSUPPORTED : (Object) false;
                    String what = bits + " bits, " + cells + " cells, " + (i + 1) + " registers";
                    int target = Check.formula(p, 0, texts[i]);
                    int code = Check.code(p, 0, codes[i]);
                    int none = Check.code(p, 0, "g0");
                    Check.due(32, what + " of the program", due, () -> p.fits(code, 0));
                    Check.due(32, what + " of the target", due, () -> p.fits(none, target));
                }
                Check.due(32, "the register 0 alone", bits * (1 + cells) > 12 ? Check.UNSUPPORTED
                        : (Object) false, () -> p.fits(5, 0));
            }
        }
    }

    /** For all targets the register 0 counts as named, and what is live. */
    private static void namesOfTargets() {
        Peepholery p = Check.bench(5, 0);
        int constant = Check.formula(p, 0, "1");
        int first = Check.formula(p, 0, "A");
        int second = Check.formula(p, 0, "B");
        int third = Check.formula(p, 0, "BC+");
        int table = tableOf32(p);
        int none = Check.code(p, 0, "");
        int live = p.target(none, 8);
        int live2 = p.target(none, 4);
        int live3 = p.target(none, 6);
        int two = Check.code(p, 0, "c1");
        int three = Check.code(p, 0, "c1 c2");
        boolean[] fitting = {false, true, false, false, true, true};
        int[] targets = {constant, first, second, third, table, live};
        for (int i = 0; i < targets.length; i++) {
            int target = targets[i];
            Object due = i == 3 ? Check.UNSUPPORTED : (Object) fitting[i];
            Check.due(32, "two registers of target " + i, due, () -> p.fits(two, target));
            Check.due(32, "three registers of target " + i, Check.UNSUPPORTED, () -> p.fits(three, target));
        }
        Check.due(32, "the registers 0 and 2", true, () -> p.fits(none, live2));
        Check.due(32, "the registers 0, 1 and 2", Check.UNSUPPORTED, () -> p.fits(two, live2));
        Check.due(32, "the registers 0, 1 and 2 by what is live", Check.UNSUPPORTED, () -> p.fits(none, live3));
    }

    private static int tableOf32(Peepholery p) {
        for (int i = 0; i < 32; i++) {
            p.put(i);
        }
        return p.table(0);
    }

    /** 0, 1 and the modulus less 1 are taken once, whatever the target has. */
    private static void constantsTaken() {
        Object[][] due = {{"A", 3}, {"A0+1+", 3}, {"A3+", 3}, {"A2+", 4}, {"A2+6+", 4}, {"A7+", 3}, {"A4+5+8+9+", 3}};
        for (Object[] d : due) {
            Peepholery p = Check.bench(2, 0);
            Check.formula(p, 0, (String) d[0]);
            // Eight letters with the register 0 and the constants, four without.
            Check.due(33, (String) d[0], 8 * (1 + (int) d[1]) + 4, () -> p.choices(0));
        }
        Peepholery p = Check.bench(5, 0);
        Check.formula(p, 0, "A8+9+8+");
        Check.due(33, "8 and 9 on 5 bits", 8 * (1 + 5) + 4, () -> p.choices(0));
        int code = Check.code(p, 0, "a0#31 a0#30 a0#30 c0 m0r0");
        int target = p.target(code, 1);
        Check.due(33, "30 of code, once", 8 * (1 + 4) + 4, () -> p.choices(target));
        int second = p.target(code, 2);
        Check.due(33, "what is live is named", 2 * 8 * (2 + 4) + 2 * 4, () -> p.choices(second));
        int other = p.target(code, 8);
        Check.due(33, "the carry is no register", 8 * (1 + 4) + 4, () -> p.choices(other));
    }

    private static void mostChoices() {
        Peepholery p = Check.bench(5, 2);
        p.allow(0, 'L', true);
        p.allow(0, 'S', true);
        int code = p.program(0);
        for (int i = 0; i < 12; i++) {
            p.add(code, i % 2 == 0 ? 'a' : 'S', 0, true, 2 + i);
        }
        int target = p.target(code, 31);
        // Ten letters with three registers and 15 constants, four without sources, on three registers.
        Check.due(33, "the most that there can be", 3 * (10 * (3 + 15) + 4), () -> p.choices(target));
        for (char letter : "mausnoxcglrpLS".toCharArray()) {
            p.allow(0, letter, false);
        }
        Check.due(33, "none", 0, () -> p.choices(target));
        p.allow(0, 'S', true);
        Check.due(33, "S alone", 3 * (3 + 15), () -> p.choices(target));
        p.allow(0, 'S', false);
        p.allow(0, 'r', true);
        Check.due(33, "r alone", 3, () -> p.choices(target));
    }
}
