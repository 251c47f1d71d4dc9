/** Promises 22 to 25: size, cycles, energy, and the front of equal programs. */
public final class CostTest {
    private CostTest() {
    }

    public static void main(String[] arguments) {
        sums();
        cycles();
        latencies();
        ports();
        fronts();
        narrowFronts();
        wrongFronts();
        Check.end("CostTest");
    }

    private static void sums() {
        Peepholery p = Check.bench(3, 0);
        p.tell(0, 'a', 4, 1, 0, 99);
        p.tell(0, 'm', 2, 1, 0, 0);
        int code = Check.code(p, 0, "a0#1 m1#1 a2#1 c0");
        Check.due(22, "size", 11, () -> p.size(code));
        Check.due(24, "energy", 199, () -> p.energy(code));
        p.loop(code, 0, 2, 0);
        Check.due(22, "with a loop", 11, () -> p.size(code));
        Check.due(24, "with a loop", 199, () -> p.energy(code));
        Check.due(23, "with a loop", Check.UNSUPPORTED, () -> p.cycles(code));
        p.tell(0, 'a', 1, 1, 0, 1);
        Check.due(22, "as costs are now", 5, () -> p.size(code));
        int none = Check.code(p, 0, "");
        Check.due(22, "none", 0, () -> p.size(none));
        Check.due(23, "none", 0, () -> p.cycles(none));
        Check.due(24, "none", 0, () -> p.energy(none));
        Check.due(22, "no program", Check.INDEX, () -> p.size(2));
        Check.due(23, "no program", Check.INDEX, () -> p.cycles(2));
        Check.due(24, "no program", Check.INDEX, () -> p.energy(-1));
    }

    private static void cycles() {
        Peepholery p = Check.bench(3, 1);
        Object[][] due = {
            {"m0#1", 1}, {"p0#1", 3}, {"L0#0", 2}, {"m0#1 m1#1", 2}, {"p0#2 m1#1", 3}, {"p0#2 m1r0", 4},
            {"p0#2 m0#1", 3}, {"p0#2 a0#1", 4}, {"p0#2 c0", 4}, {"p0#2 a1r0", 4}, {"S0#0 L1#0 a2r1", 5},
            {"S0#0 S1#0", 4}, {"L0#0 L1#0", 3}, {"p0#2 m0#1 a0#1", 3}, {"p0#2 p0#2", 6}, {"p0#2 p1#2", 4},
            {"L0#0 S0#0", 4}, {"a1#1 u0#1", 2},
        };
        for (Object[] d : due) {
            int code = Check.code(p, 0, (String) d[0]);
            Check.due(23, (String) d[0], d[1], () -> p.cycles(code));
        }
    }

    private static void latencies() {
        Peepholery p = Check.bench(3, 1);
        p.tell(0, 'x', 1, 7, 0, 1);
        p.tell(0, 'l', 1, 5, 0, 1);
        p.tell(0, 'S', 1, 6, 0, 1);
        int carry = Check.code(p, 0, "l1 u0#1");
        Check.due(23, "u waits for the carry of l", 6, () -> p.cycles(carry));
        int and = Check.code(p, 0, "x1#1 u0#1");
        Check.due(23, "x makes no carry", 7, () -> p.cycles(and));
        p.quirk(0, 0, true);
        Check.due(23, "but by the quirk 0", 8, () -> p.cycles(and));
        p.quirk(0, 1, true);
        Check.due(23, "l leaves the carry by the quirk 1", 5, () -> p.cycles(carry));
        int anew = Check.code(p, 0, "x1#1 m1#1 a0r1");
        Check.due(23, "what is made anew is there sooner", 7, () -> p.cycles(anew));
        int added = Check.code(p, 0, "x1#1 a2#1 u0#1");
        Check.due(23, "so is the carry", 7, () -> p.cycles(added));
        int stored = Check.code(p, 0, "S1#0 L0#0");
        Check.due(23, "L waits for S", 8, () -> p.cycles(stored));
        int same = Check.code(p, 0, "S1#0 m1#1");
        Check.due(23, "S does not make d", 6, () -> p.cycles(same));
    }

    private static void ports() {
        Peepholery p = Check.bench(3, 0);
        p.tell(0, 'a', 1, 1, 1, 1);
        int both = Check.code(p, 0, "m0#1 a1#1");
        Check.due(23, "two ports at once", 1, () -> p.cycles(both));
        int one = Check.code(p, 0, "m0#1 m1#1 a2#1 a2#1");
        Check.due(23, "one after the other on each", 3, () -> p.cycles(one));
        p.tell(0, 'm', 1, 4, 0, 1);
        int waits = Check.code(p, 0, "m0#1 a0#1 m1#1");
        Check.due(23, "none begins ahead of the one ahead", 8, () -> p.cycles(waits));
    }

    private static void fronts() {
        Peepholery p = Check.bench(3, 0);
        p.tell(0, 'p', 1, 9, 0, 1);
        int times = Check.code(p, 0, "p0#4");
        int sums = Check.code(p, 0, "a0r0 a0r0");
        Check.due(25, "size against cycles", 2, () -> p.front(times, 1));
        int shifts = Check.code(p, 0, "l0 l0");
        Check.due(25, "alike ones are both in it", 3, () -> p.front(times, 1));
        Check.code(p, 0, "l0 l0 m1#0");
        Check.due(25, "a worse one is not", 3, () -> p.front(times, 1));
        p.tell(0, 'l', 1, 1, 0, 0);
        Check.due(25, "less energy", 2, () -> p.front(sums, 1));
        Check.due(25, "the same asked of the other", 2, () -> p.front(shifts, 1));
        Check.due(25, "with the carry, the product is unlike", 1, () -> p.front(shifts, 9));
        Check.due(25, "of the product, with the carry", 1, () -> p.front(times, 9));
        int looped = Check.code(p, 0, "l0 m2#0");
        p.loop(looped, 1, 2, 2);
        Check.due(25, "with a loop it is not counted", 0, () -> p.front(looped, 1));
        int single = Check.code(p, 0, "l0");
        Check.due(25, "but equal ones are", 1, () -> p.front(looped, 1));
        Check.due(25, "and it is none of theirs", 1, () -> p.front(single, 1));
    }

    /** Each of the three is what one program is better in by one, and another one worse. */
    private static void narrowFronts() {
        for (int kind = 0; kind < 3; kind++) {
            Peepholery p = Check.bench(3, 0);
            int more = kind;
            p.tell(0, 'x', more == 0 ? 5 : 6, more == 1 ? 5 : 6, 0, more == 2 ? 5 : 6);
            p.tell(0, 's', more == 0 ? 6 : 5, more == 1 ? 6 : 5, 0, more == 2 ? 6 : 5);
            int turned = Check.code(p, 0, "x0r0");
            Check.code(p, 0, "s0r0");
            Check.due(25, "better and worse by one", 2, () -> p.front(turned, 1));
            p.tell(0, 's', 6, 6, 0, 6);
            Check.due(25, "better in one, as good else", 1, () -> p.front(turned, 1));
            p.tell(0, 'x', 6, 6, 0, 6);
            Check.due(25, "as good in all", 2, () -> p.front(turned, 1));
        }
    }

    private static void wrongFronts() {
        Peepholery p = Check.bench(5, 0);
        p.machine(5, 0);
        int all = Check.code(p, 0, "a0r1 a0r2");
        Check.due(25, "alone there are never too many", 1, () -> p.front(all, 7));
        int other = Check.code(p, 1, "a0r1");
        Check.due(25, "unlike machines do not count", 1, () -> p.front(all, 7));
        Check.due(25, "alone", 1, () -> p.front(other, 1));
        int small = Check.code(p, 0, "");
        Check.due(25, "too many for another one", Check.UNSUPPORTED, () -> p.front(small, 1));
        p.loop(all, 0, 1, 0);
        Check.due(25, "one with a loop does not count", 1, () -> p.front(small, 1));
        Check.due(25, "out of range", Check.ARGUMENT, () -> p.front(all, 32));
        Check.due(25, "out of range", Check.ARGUMENT, () -> p.front(all, -1));
        Check.due(25, "no program", Check.INDEX, () -> p.front(3, 32));
    }
}
