/** The bounds of sizes, cycles, energies and fronts: promises 22 to 25. */
public final class CostBoundsTest {
    private CostBoundsTest() {
    }

    public static void main(String[] arguments) {
        empty();
        greatest();
        least();
        beginnings();
        waits();
        carries();
        frontSizes();
        frontLimits();
        beaten();
        Check.end("CostBoundsTest");
    }

    private static void empty() {
        Peepholery p = Check.bench(2, 0);
        int none = p.program(0);
        Check.due(22, "empty", 0, () -> p.size(none));
        Check.due(23, "empty", 0, () -> p.cycles(none));
        Check.due(24, "empty", 0, () -> p.energy(none));
        Check.write(p, none, "m0#0");
        p.drop(none);
        Check.due(22, "empty again", 0, () -> p.size(none));
        Check.due(23, "empty again", 0, () -> p.cycles(none));
        Check.due(24, "empty again", 0, () -> p.energy(none));
        p.add(none, 'm', 0, true, 0);
        p.loop(none, 0, 1, 0);
        Check.due(22, "a loop's part counts once", 1, () -> p.size(none));
        Check.due(23, "a loop", Check.UNSUPPORTED, () -> p.cycles(none));
        Check.due(24, "a loop's part counts once", 1, () -> p.energy(none));
    }

    private static void greatest() {
        Peepholery p = Check.bench(5, 2);
        for (char letter : "mausnoxcglrpLS".toCharArray()) {
            p.tell(0, letter, 9, 9, 1, 99);
        }
        int chain = Check.code(p, 0, Check.times("a0r0", 12));
        Check.due(22, "12 of size 9", 108, () -> p.size(chain));
        Check.due(23, "12 of latency 9, one behind the other", 108, () -> p.cycles(chain));
        Check.due(24, "12 of energy 99", 1188, () -> p.energy(chain));
        int free = Check.code(p, 0, Check.times("m0#1", 12));
        Check.due(23, "12 of latency 9 that wait for the port alone", 11 + 9, () -> p.cycles(free));
    }

    private static void least() {
        Peepholery p = Check.bench(2, 0);
        p.tell(0, 'm', 1, 1, 0, 0);
        int code = Check.code(p, 0, Check.times("m0#1", 12));
        Check.due(22, "12 of size 1", 12, () -> p.size(code));
        Check.due(23, "12 of latency 1", 12, () -> p.cycles(code));
        Check.due(24, "12 of energy 0", 0, () -> p.energy(code));
        p.tell(0, 'm', 1, 1, 0, 1);
        Check.due(24, "12 of energy 1", 12, () -> p.energy(code));
        p.tell(0, 'a', 1, 1, 1, 0);
        int both = Check.code(p, 0, "m0#1 a1#1 m0#1 a1#1 m0#1 a1#1 m0#1 a1#1 m0#1 a1#1 m0#1 a1#1");
        Check.due(23, "two in each cycle by two ports", 6, () -> p.cycles(both));
    }

    /** In order, on the first free cycle of the port: not ahead of the one ahead. */
    private static void beginnings() {
        Peepholery p = Check.bench(3, 0);
        p.tell(0, 'a', 1, 1, 1, 1);
        p.tell(0, 's', 1, 1, 1, 1);
        Object[][] due = {
            {"m0#1 a1#1", 1}, {"a1#1 m0#1", 1}, {"m0#1 m1#1", 2}, {"a0#1 s1#1", 2}, {"m0#1 a1#1 s2#1", 2},
            {"m0#1 m1#1 a2#1", 2}, {"m0#1 m1#1 a2#1 s2#1", 3}, {"p0r0 a0#1 m1#1", 4}, {"p0r0 a0#1 m1#1 m2#1", 5},
            {"a1#1 p0r0 m2#1", 3}, {"p0r0 m1#1 a1#1", 3}, {"p0r0 m1#1 a1#1 s2#1 s2#1", 5},
        };
        for (Object[] d : due) {
            int code = Check.code(p, 0, (String) d[0]);
            Check.due(23, (String) d[0], d[1], () -> p.cycles(code));
        }
    }

    /** Each letter behind what makes its d, its source or the cells, with latencies of 1 and 9. */
    private static void waits() {
        for (char letter : "mausnoxcglrpLS".toCharArray()) {
            Peepholery p = Check.bench(3, 1);
            // The port of what is ahead is another one, so that only what is read can hold it up.
            for (char other : "mausnoxcglrpLS".toCharArray()) {
                p.tell(0, other, 1, 1, 0, 1);
            }
            char ahead = letter == 'p' ? 'x' : 'p';
            p.tell(0, ahead, 1, 9, 1, 1);
            boolean readsD = letter != 'm' && letter != 'L';
            boolean readsSource = "cglr".indexOf(letter) < 0;
            wait(p, letter, ahead + "0r0 " + letter + "0r1", readsD);
            wait(p, letter, ahead + "1r1 " + letter + "0r1", readsSource);
            wait(p, letter, ahead + "1r1 " + letter + "0#1", false);
            wait(p, letter, ahead + "2r2 " + letter + "0r1", false);
            if (letter != 'S') {
                p.tell(0, 'S', 1, 9, 1, 1);
                wait(p, letter, "S2#0 " + letter + "0r1", letter == 'L');
            }
        }
        Peepholery p = Check.bench(3, 1);
        p.tell(0, 'S', 1, 9, 0, 1);
        int stores = Check.code(p, 0, "S0#0 S1#0");
        Check.due(23, "S waits for S", 18, () -> p.cycles(stores));
    }

    private static void wait(Peepholery p, char letter, String code, boolean isHeldUp) {
        int program = Check.code(p, 0, code);
        Check.due(23, letter + " in " + code, isHeldUp ? 10 : 9, () -> p.cycles(program));
    }

    /** Whether u waits for the carry of each letter, by the quirks. */
    private static void carries() {
        for (int quirks = 0; quirks < 4; quirks++) {
            String made = "aus" + (quirks % 2 == 1 ? "noxc" : "") + (quirks / 2 == 0 ? "lr" : "");
            for (char letter : "mausnoxcglrpLS".toCharArray()) {
                Peepholery p = Check.bench(3, 1);
                p.quirk(0, 0, quirks % 2 == 1);
                p.quirk(0, 1, quirks / 2 == 1);
                p.tell(0, letter, 1, 9, 1, 1);
                boolean isCarry = made.indexOf(letter) >= 0;
                int code = Check.code(p, 0, letter + "1#1 u0#1");
                // Behind itself it waits for the port, too.
                int due = letter == 'u' ? 18 : isCarry ? 10 : 9;
                Check.due(23, "u behind " + letter + ", quirks " + quirks, due, () -> p.cycles(code));
            }
        }
    }

    private static void frontSizes() {
        Peepholery p = Check.bench(2, 0);
        p.program(0);
        Check.due(25, "one alone", 1, () -> p.front(0, 31));
        for (int i = 1; i < 24; i++) {
            p.program(0);
        }
        Check.due(25, "all 24 alike", 24, () -> p.front(0, 31));
        Check.due(25, "asked of the last one", 24, () -> p.front(23, 31));
        p.add(23, 'm', 0, false, 0);
        Check.due(25, "the last one is worse", 23, () -> p.front(23, 31));
        p.add(0, 'm', 0, false, 0);
        Check.due(25, "the first one is worse, too", 22, () -> p.front(0, 31));
        p.add(1, 'm', 0, false, 0);
        p.loop(1, 0, 1, 0);
        Check.due(25, "one with a loop is not counted", 21, () -> p.front(0, 31));
        Check.due(25, "and has no equal ones", 0, () -> p.front(1, 31));
    }

    private static void frontLimits() {
        Peepholery p = Check.bench(4, 0);
        int all = Check.code(p, 0, "m0r0 m1r1");
        int third = Check.code(p, 0, "m2r2");
        Check.due(25, "8192 states are not too many", 1, () -> p.front(all, 31));
        Check.due(25, "of the other one, too", 1, () -> p.front(third, 31));
        Peepholery q = Check.bench(4, 1);
        int two = Check.code(q, 0, "m0r0 m1r1");
        int other = Check.code(q, 0, "m0r0 m1r1");
        Check.due(25, "two registers and a cell", 2, () -> q.front(two, 3));
        Check.due(25, "three by what is live", Check.UNSUPPORTED, () -> q.front(two, 4));
        int last = Check.code(q, 0, "m2r2");
        Check.due(25, "three by the last one", Check.UNSUPPORTED, () -> q.front(two, 3));
        Check.due(25, "asked of the last one", Check.UNSUPPORTED, () -> q.front(last, 3));
        q.loop(last, 0, 1, 2);
        Check.due(25, "one with a loop is none of them", 2, () -> q.front(other, 3));
        Check.due(25, "but asked of it", Check.UNSUPPORTED, () -> q.front(last, 3));
    }

    /** Unlike in the first state alone, in the last one alone, or nowhere. */
    private static void beaten() {
        Peepholery p = Check.bench(2, 0);
        int worse = Check.code(p, 0, "m0r0 m0r0");
        int better = Check.code(p, 0, "m0r0");
        Check.due(25, "the better one alone", 1, () -> p.front(worse, 1));
        int first = Check.code(p, 0, "");
        Check.due(25, "the best one alone", 1, () -> p.front(better, 1));
        p.add(first, 'm', 0, true, 3);
        Check.due(25, "unlike in the first state, equal in the last one", 1, () -> p.front(first, 1));
        Check.due(25, "and so it beats none", 1, () -> p.front(worse, 1));
        p.tell(0, 'x', 9, 9, 0, 99);
        int costly = Check.code(p, 0, "x0r0");
        Check.due(25, "a costly one alone", 1, () -> p.front(costly, 1));
    }
}
