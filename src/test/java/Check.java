/** What the tests of promises share: each call is told with what is due, and a test ends with what was wrong. */
final class Check {
    static final Class<?> INDEX = IndexOutOfBoundsException.class;
    static final Class<?> ARGUMENT = IllegalArgumentException.class;
    static final Class<?> UNSUPPORTED = UnsupportedOperationException.class;
    static final Class<?> STATE = IllegalStateException.class;
    static final Class<?> NONE = java.util.NoSuchElementException.class;
    static final Class<?> ARITHMETIC = ArithmeticException.class;
    /** Numbers that are far out of each range that the document tells. */
    static final int[] FAR = {Integer.MIN_VALUE, -32, -2, 1 << 20, Integer.MAX_VALUE};
    private static int wrong;
    private static int all;

    interface Call {
        Object answer();
    }

    private Check() {
    }

    /** The answer that is due, or the class of the exception that is due. */
    static void due(int promise, String what, Object due, Call call) {
        Object is;
        try {
            is = call.answer();
        } catch (RuntimeException e) {
            is = isThrownByBench(e) ? e.getClass() : e;
        }
        all++;
        if (!due.equals(is)) {
            wrong++;
            System.out.println("promise " + promise + ", " + what + ": is " + is + ", due is " + due);
        }
    }

    /** Whether it comes from a throw of the bench: what the library throws on a wrong index is no answer. */
    private static boolean isThrownByBench(RuntimeException e) {
        StackTraceElement[] trace = e.getStackTrace();
        return trace.length > 0 && trace[0].getClassName().startsWith("Peepholery");
    }

    static void end(String test) {
        System.out.println(test + ": " + all + " answers, " + wrong + " wrong");
        System.exit(wrong == 0 && all > 0 ? 0 : 1);
    }

    /** A bench with one machine. */
    static Peepholery bench(int bits, int cells) {
        Peepholery bench = new Peepholery();
        bench.machine(bits, cells);
        return bench;
    }

    /** Adds a program told like "a0#3 m1r2 c0": letter, register, and # with a constant or r with a register. */
    static int code(Peepholery bench, int machine, String text) {
        int program = bench.program(machine);
        write(bench, program, text);
        return program;
    }

    static void write(Peepholery bench, int program, String text) {
        for (String told : text.trim().split(" +")) {
            if (!told.isEmpty()) {
                boolean hasSource = told.length() > 2;
                int s = hasSource ? Integer.parseInt(told.substring(3)) : 0;
                bench.add(program, told.charAt(0), told.charAt(1) - '0', hasSource && told.charAt(2) == '#', s);
            }
        }
    }

    /** A program in the words that code takes. */
    static String told(Peepholery bench, int program) {
        StringBuilder told = new StringBuilder();
        for (int i = 0; i < bench.length(program); i++) {
            char letter = bench.letterAt(program, i);
            int rest = bench.restAt(program, i);
            told.append(i == 0 ? "" : " ").append(letter).append(rest / 100);
            if ("cglr".indexOf(letter) < 0) {
                told.append(rest % 100 >= 50 ? "#" + (rest % 100 - 50) : "r" + rest % 100);
            }
        }
        return told.toString();
    }

    /** Code of so many instructions, each the same one. */
    static String times(String instruction, int count) {
        return (instruction + " ").repeat(count).trim();
    }

    static int formula(Peepholery bench, int machine, String text) {
        for (char sign : text.toCharArray()) {
            bench.type(sign);
        }
        return bench.formula(machine);
    }

    static int table(Peepholery bench, int machine, int... row) {
        for (int number : row) {
            bench.put(number);
        }
        return bench.table(machine);
    }
}
