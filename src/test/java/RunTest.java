/** Promises 14 to 21: runs, equality and liveness. */
public final class RunTest {
    private RunTest() {
    }

    public static void main(String[] arguments) {
        letters();
        loops();
        wrongRuns();
        cells();
        equality();
        tooManyStates();
        liveness();
        cleaning();
        Check.end("RunTest");
    }

    /** Runs code on 3 bits from 5, 3, 6 and tells the register 0 times 10, and the carry. */
    private static int outcome(String code, boolean carry) {
        Peepholery p = Check.bench(3, 0);
        p.run(Check.code(p, 0, code), 5, 3, 6, carry);
        return 10 * p.word(0) + (p.carry() ? 1 : 0);
    }

    private static void letters() {
        Object[][] due = {
            {"m0r1", 30, 31}, {"m0#7", 70, 71}, {"a0r1", 1, 1}, {"a0#2", 70, 70}, {"u0#2", 70, 1}, {"u0#1", 60, 70},
            {"s0r1", 20, 20}, {"s0r2", 71, 71}, {"s0r0", 0, 0}, {"n0r1", 10, 11}, {"o0r1", 70, 71}, {"x0r1", 60, 61},
            {"c0", 20, 21}, {"g0", 30, 31}, {"l0", 21, 21}, {"r0", 21, 21}, {"p0r1", 70, 71}, {"l1 m0r1", 60, 60},
            {"r2 m0r2", 30, 30}, {"", 50, 51}, {"m0#0 g0", 0, 1},
        };
        for (Object[] d : due) {
            Check.due(14, d[0] + " without carry", d[1], () -> outcome((String) d[0], false));
            Check.due(14, d[0] + " with carry", d[2], () -> outcome((String) d[0], true));
        }
    }

    private static void loops() {
        Peepholery p = Check.bench(2, 0);
        int count = Check.code(p, 0, "m2#0 s0#1 a1#1 m2r1");
        p.loop(count, 1, 3, 0);
        Check.due(14, "three times", 3, () -> p.run(count, 3, 0, 1, false));
        Check.due(15, "what is behind is done", 3, () -> p.word(2));
        Check.due(14, "not at all", 0, () -> p.run(count, 0, 2, 1, true));
        Check.due(15, "what is behind is done", 2, () -> p.word(2));
        Check.due(16, "the carry was left", true, p::carry);
        int endless = Check.code(p, 0, "s0#2 a1#1 m2#3");
        p.loop(endless, 0, 2, 0);
        Check.due(14, "once", 1, () -> p.run(endless, 2, 0, 0, false));
        Check.due(14, "endless", -1, () -> p.run(endless, 1, 0, 0, false));
        Check.due(15, "stops there: what is behind is not done", 0, () -> p.word(2));
        Check.due(15, "as many times as the modulus", 0, () -> p.word(1));
        Check.due(15, "as many times as the modulus", 1, () -> p.word(0));
        int most = Check.code(p, 0, "s1#1 m0r1");
        p.loop(most, 0, 2, 0);
        Check.due(14, "as many times as the modulus is not endless", 4, () -> p.run(most, 1, 0, 0, false));
    }

    private static void wrongRuns() {
        Peepholery p = Check.bench(2, 1);
        int code = Check.code(p, 0, "a0#1");
        Check.due(15, "nothing was run", Check.NONE, () -> p.word(0));
        Check.due(15, "no register first", Check.INDEX, () -> p.word(3));
        Check.due(16, "nothing was run", Check.NONE, p::carry);
        Check.due(17, "nothing was run", Check.NONE, () -> p.cell(0));
        Check.due(14, "no program first", Check.INDEX, () -> p.run(1, 4, 0, 0, false));
        Check.due(14, "no word", Check.ARGUMENT, () -> p.run(code, 4, 0, 0, false));
        Check.due(14, "no word", Check.ARGUMENT, () -> p.run(code, 0, -1, 0, false));
        Check.due(14, "no word", Check.ARGUMENT, () -> p.run(code, 0, 0, 4, false));
        Check.due(15, "nothing was run still", Check.NONE, () -> p.word(0));
        p.run(code, 3, 2, 1, false);
        Check.due(15, "words", 0 + 20 + 100, () -> p.word(0) + 10 * p.word(1) + 100 * p.word(2));
        Check.due(15, "no register", Check.INDEX, () -> p.word(-1));
        p.add(code, 'm', 0, true, 1);
        p.areEqual(code, code, 7);
        Check.due(15, "only runs leave words", 0, () -> p.word(0));
        Check.due(16, "only runs leave the carry", true, p::carry);
    }

    private static void cells() {
        Peepholery p = Check.bench(3, 2);
        p.machine(3, 1);
        p.machine(3, 0);
        int two = Check.code(p, 0, "S0#1 S1r2 L2#3");
        p.run(two, 5, 6, 4, false);
        Check.due(17, "the number is that of the source, modulo the cells", 6, () -> p.cell(0));
        Check.due(17, "second cell", 5, () -> p.cell(1));
        Check.due(15, "L takes it", 5, () -> p.word(2));
        Check.due(17, "no cell", Check.NONE, () -> p.cell(2));
        Check.due(17, "no cell", Check.NONE, () -> p.cell(-1));
        p.run(two, 0, 0, 0, false);
        Check.due(14, "cells are 0 at first", 0, () -> p.cell(0));
        p.run(two, 5, 6, 4, false);
        p.run(Check.code(p, 0, "c0"), 5, 6, 4, false);
        Check.due(14, "cells are 0 at first", 0, () -> p.cell(0));
        Check.due(14, "cells are 0 at first", 0, () -> p.cell(1));
        int one = Check.code(p, 1, "S0#1 L1#7");
        p.run(one, 5, 6, 4, false);
        Check.due(17, "one cell", 5, () -> p.cell(0));
        Check.due(15, "one cell", 5, () -> p.word(1));
        Check.due(17, "no second cell", Check.NONE, () -> p.cell(1));
        p.run(Check.code(p, 2, ""), 5, 6, 4, false);
        Check.due(17, "no cells", Check.NONE, () -> p.cell(0));
    }

    private static void equality() {
        Peepholery p = Check.bench(3, 0);
        p.machine(3, 0);
        int there = Check.code(p, 0, "a0#3 s0#3");
        int none = Check.code(p, 0, "");
        Check.due(18, "in the register", true, () -> p.areEqual(there, none, 1));
        Check.due(18, "not in the carry", false, () -> p.areEqual(there, none, 9));
        Check.due(18, "in nothing", true, () -> p.areEqual(there, none, 0));
        Check.due(19, "nowhere", -1, () -> p.differsAt(there, none, 7));
        Check.due(19, "0 0 0 with the carry", 1, () -> p.differsAt(there, none, 8));
        Check.due(19, "the register 1 counts as named", 1, () -> p.differsAt(there, none, 10));
        int second = Check.code(p, 0, "m2r1");
        Check.due(19, "the register 2 is not named here and 0", -1, () -> p.differsAt(none, none, 4));
        Check.due(19, "register 1 is 0 first, then register 2 is 1", 2, () -> p.differsAt(second, none, 4));
        int third = Check.code(p, 0, "n1#3");
        Check.due(19, "the first with register 1 over 3", 8, () -> p.differsAt(third, none, 2));
        Check.due(19, "the same with register 2 in it", 64, () -> p.differsAt(third, none, 6));
        int other = Check.code(p, 1, "");
        Check.due(18, "unlike machines", Check.UNSUPPORTED, () -> p.areEqual(none, other, 1));
        Check.due(19, "unlike machines", Check.UNSUPPORTED, () -> p.differsAt(none, other, 1));
        Check.due(18, "out of range", Check.ARGUMENT, () -> p.areEqual(none, other, 32));
        Check.due(19, "out of range", Check.ARGUMENT, () -> p.differsAt(none, other, -1));
        Check.due(18, "no program", Check.INDEX, () -> p.areEqual(none, 9, 32));
        Check.due(19, "no program", Check.INDEX, () -> p.differsAt(-1, none, 32));
        int endless = Check.code(p, 0, "a0#2");
        p.loop(endless, 0, 1, 0);
        int alike = Check.code(p, 0, "s0#2");
        p.loop(alike, 0, 1, 0);
        int zero = Check.code(p, 0, "m0#0");
        Check.due(18, "both endless", true, () -> p.areEqual(endless, alike, 1));
        Check.due(19, "one endless", 2, () -> p.differsAt(endless, zero, 1));
        Check.due(18, "one endless, nothing live", false, () -> p.areEqual(endless, zero, 0));
        Peepholery q = Check.bench(2, 2);
        int store = Check.code(q, 0, "S0#1");
        int empty = Check.code(q, 0, "");
        Check.due(19, "the cell 1 changes first", 1, () -> q.differsAt(store, empty, 16));
        Check.due(18, "cells are not live", true, () -> q.areEqual(store, empty, 15));
        int load = Check.code(q, 0, "m0#0 L0#0");
        int clear = Check.code(q, 0, "m0#0");
        Check.due(19, "cell 0 is 1", 4, () -> q.differsAt(load, clear, 1));
    }

    private static void tooManyStates() {
        Peepholery p = Check.bench(5, 0);
        int three = Check.code(p, 0, "a0r1 a0r2");
        int two = Check.code(p, 0, "a0r1");
        Check.due(18, "5 bits, three registers", Check.UNSUPPORTED, () -> p.areEqual(three, three, 1));
        Check.due(19, "5 bits, three registers", Check.UNSUPPORTED, () -> p.differsAt(two, two, 4));
        Check.due(18, "5 bits, two registers", true, () -> p.areEqual(two, two, 3));
        int looped = Check.code(p, 0, "s1#1");
        p.loop(looped, 0, 1, 2);
        Check.due(18, "the register of a loop is named", Check.UNSUPPORTED, () -> p.areEqual(looped, two, 1));
        Peepholery q = Check.bench(4, 0);
        int all = Check.code(q, 0, "a0r1 a0r2");
        Check.due(18, "8192 are not too many", true, () -> q.areEqual(all, all, 7));
        Peepholery r = Check.bench(4, 1);
        int cells = Check.code(r, 0, "c0 c1 c2");
        Check.due(18, "cells count, too", Check.UNSUPPORTED, () -> r.areEqual(cells, cells, 1));
    }

    private static void liveness() {
        Peepholery p = Check.bench(3, 1);
        int code = Check.code(p, 0, "S1#0 L2#0 a0r2");
        Check.due(20, "ahead of S", 19, () -> p.liveAt(code, 0, 1));
        Check.due(20, "ahead of L", 17, () -> p.liveAt(code, 1, 1));
        Check.due(20, "ahead of a", 5, () -> p.liveAt(code, 2, 1));
        Check.due(20, "behind all", 1, () -> p.liveAt(code, 3, 1));
        Check.due(20, "a makes the carry anew", 5, () -> p.liveAt(code, 2, 9));
        Check.due(20, "S does not take cells away", 18, () -> p.liveAt(code, 0, 16) & 18);
        Check.due(20, "no place", Check.INDEX, () -> p.liveAt(code, 4, 99));
        Check.due(20, "no place", Check.INDEX, () -> p.liveAt(code, -1, 1));
        Check.due(20, "no program", Check.INDEX, () -> p.liveAt(1, 0, 1));
        Check.due(20, "out of range", Check.ARGUMENT, () -> p.liveAt(code, 0, 32));
        Object[][] due = {
            {"m0r1", 31, 30}, {"m0#1", 1, 0}, {"a0r1", 0, 3}, {"u0#1", 8, 9}, {"s1r2", 24, 22}, {"x0r0", 8, 9},
            {"c0", 8, 9}, {"g0", 8, 9}, {"l0", 8, 1}, {"r2", 12, 4}, {"p0r2", 8, 13}, {"L0r1", 1, 18},
            {"S0r1", 0, 19},
        };
        for (Object[] d : due) {
            int one = Check.code(p, 0, (String) d[0]);
            Check.due(20, (String) d[0], d[2], () -> p.liveAt(one, 0, (int) d[1]));
        }
        int turn = Check.code(p, 0, "c1");
        int shift = Check.code(p, 0, "l1");
        p.quirk(0, 0, true);
        p.quirk(0, 1, true);
        Check.due(20, "c with quirk 0 makes the carry", 2, () -> p.liveAt(turn, 0, 8));
        Check.due(20, "l with quirk 1 leaves it", 10, () -> p.liveAt(shift, 0, 8));
        p.loop(turn, 0, 1, 0);
        Check.due(20, "a loop", Check.UNSUPPORTED, () -> p.liveAt(turn, 0, 1));
        Check.due(20, "a loop counts last", Check.ARGUMENT, () -> p.liveAt(turn, 0, 32));
    }

    private static void cleaning() {
        Peepholery p = Check.bench(3, 1);
        Object[][] due = {
            {"m1#1 a1#1 m0#2", 1, 2, "m0#2"}, {"m1#1 m0r1", 1, 0, "m1#1 m0r1"}, {"a1#1 m0#2", 9, 0, "a1#1 m0#2"},
            {"a1#1 s2#1 m0#2", 9, 1, "s2#1 m0#2"}, {"S0#0 L1#0", 1, 2, ""}, {"S0#0 L1#0", 16, 1, "S0#0"},
            {"S0#0 L0#0", 1, 0, "S0#0 L0#0"}, {"m0#1 m0#2", 0, 2, ""}, {"m0#1 c1 m0r1", 1, 1, "c1 m0r1"},
            {"l0 r1", 8, 1, "r1"}, {"x0#1", 8, 1, ""}, {"S0#0", 1, 1, ""},
        };
        for (Object[] d : due) {
            int code = Check.code(p, 0, (String) d[0]);
            Check.due(21, d[0] + " live " + d[1], d[2], () -> p.clean(code, (int) d[1]));
            Check.due(21, d[0] + " live " + d[1], d[3], () -> Check.told(p, code));
        }
        int code = Check.code(p, 0, "m1#1");
        Check.due(21, "out of range", Check.ARGUMENT, () -> p.clean(code, -1));
        Check.due(21, "no program", Check.INDEX, () -> p.clean(99, -1));
        int and = Check.code(p, 0, "n0#1");
        p.quirk(0, 0, true);
        Check.due(21, "the carry that n makes is live", 0, () -> p.clean(and, 8));
        p.loop(code, 0, 1, 1);
        Check.due(21, "a loop", Check.UNSUPPORTED, () -> p.clean(code, 1));
        Check.due(21, "nothing is changed", 1, () -> p.length(code));
    }
}
