/** Promises 1 to 13: a new bench, machines, and programs. */
public final class MachineTest {
    private MachineTest() {
    }

    public static void main(String[] arguments) {
        newBench();
        machines();
        quirks();
        costs();
        allowance();
        programs();
        instructions();
        loops();
        Check.end("MachineTest");
    }

    private static void newBench() {
        Peepholery p = new Peepholery();
        Check.due(1, "no machine", Check.INDEX, () -> p.program(0));
        Check.due(1, "no program", Check.INDEX, () -> p.length(0));
        Check.due(1, "no target", Check.INDEX, () -> p.choices(0));
        Check.due(1, "no rule", Check.INDEX, () -> p.generals(0));
        Check.due(1, "no term", Check.INDEX, () -> p.classOf(0));
        Check.due(1, "empty text and row", 0, p::wipe);
        Check.due(1, "nothing was run", Check.NONE, p::carry);
    }

    private static void machines() {
        Peepholery p = new Peepholery();
        for (int[] odd : new int[][] {{1, 0}, {6, 0}, {2, -1}, {2, 3}, {Integer.MIN_VALUE, 0}}) {
            Check.due(2, "out of range", Check.ARGUMENT, () -> p.machine(odd[0], odd[1]));
        }
        Check.due(2, "first", 0, () -> p.machine(2, 0));
        Check.due(2, "second", 1, () -> p.machine(5, 2));
        Check.due(2, "third", 2, () -> p.machine(3, 1));
        Check.due(2, "fourth", 3, () -> p.machine(4, 0));
        Check.due(2, "fifth", Check.STATE, () -> p.machine(4, 0));
        Check.due(2, "range ahead of number", Check.ARGUMENT, () -> p.machine(6, 0));
    }

    private static void quirks() {
        Peepholery p = Check.bench(3, 0);
        Check.due(3, "as before", 0, () -> p.quirk(0, 0, false));
        Check.due(3, "given", 1, () -> p.quirk(0, 0, true));
        Check.due(3, "given again", 1, () -> p.quirk(0, 0, true));
        Check.due(3, "the other", 2, () -> p.quirk(0, 1, true));
        Check.due(3, "taken", 3, () -> p.quirk(0, 0, false));
        Check.due(3, "no quirk", Check.ARGUMENT, () -> p.quirk(0, 2, true));
        Check.due(3, "no quirk", Check.ARGUMENT, () -> p.quirk(0, -1, true));
        Check.due(3, "no machine first", Check.INDEX, () -> p.quirk(1, 2, true));
        int code = Check.code(p, 0, "a0#7 n0#7");
        p.run(code, 7, 0, 0, false);
        Check.due(3, "n leaves the carry without quirk 0", true, p::carry);
        p.quirk(0, 0, true);
        p.run(code, 7, 0, 0, false);
        Check.due(3, "n makes it 0 with it", false, p::carry);
        int shift = Check.code(p, 0, "l0");
        p.run(shift, 7, 0, 0, false);
        Check.due(3, "l leaves the carry with quirk 1", false, p::carry);
        p.quirk(0, 1, false);
        p.run(shift, 7, 0, 0, false);
        Check.due(3, "l makes it without", true, p::carry);
    }

    private static void costs() {
        Peepholery p = Check.bench(3, 0);
        Check.due(4, "size before", 1, () -> p.tell(0, 'a', 9, 9, 1, 99));
        Check.due(4, "size told", 9, () -> p.tell(0, 'a', 1, 1, 0, 0));
        Check.due(4, "letters for cells have costs, too", 1, () -> p.tell(0, 'L', 2, 1, 0, 0));
        Check.due(4, "no machine first", Check.INDEX, () -> p.tell(1, 'q', 0, 1, 0, 0));
        Check.due(4, "no letter", Check.ARGUMENT, () -> p.tell(0, 'q', 1, 1, 0, 0));
        int[][] odd = {{0, 1, 0, 0}, {10, 1, 0, 0}, {1, 0, 0, 0}, {1, 10, 0, 0}, {1, 1, -1, 0}, {1, 1, 2, 0},
            {1, 1, 0, -1}, {1, 1, 0, 100}};
        for (int[] o : odd) {
            Check.due(4, "out of range", Check.ARGUMENT, () -> p.tell(0, 'm', o[0], o[1], o[2], o[3]));
        }
        int code = Check.code(p, 0, "m0#1 p1#1");
        Check.due(4, "refused costs are not taken", 2, () -> p.size(code));
        Check.due(4, "p has the latency 3", 4, () -> p.cycles(code));
        Check.due(4, "energies at first", 2, () -> p.energy(code));
    }

    private static void allowance() {
        Peepholery p = Check.bench(3, 1);
        p.machine(3, 0);
        Check.due(5, "all but L and S", 12, () -> p.allow(0, 'm', true));
        Check.due(5, "one less", 11, () -> p.allow(0, 'm', false));
        Check.due(5, "again", 11, () -> p.allow(0, 'm', false));
        Check.due(5, "L", 12, () -> p.allow(0, 'L', true));
        Check.due(5, "S", 13, () -> p.allow(0, 'S', true));
        Check.due(5, "no cells", Check.ARGUMENT, () -> p.allow(1, 'L', true));
        Check.due(5, "no cells", Check.ARGUMENT, () -> p.allow(1, 'S', false));
        Check.due(5, "no letter", Check.ARGUMENT, () -> p.allow(0, 'M', true));
        Check.due(5, "no machine first", Check.INDEX, () -> p.allow(2, 'M', true));
        Check.due(5, "the other machine is as it was", 12, () -> p.allow(1, 'm', true));
    }

    private static void programs() {
        Peepholery p = Check.bench(3, 0);
        Check.due(6, "no machine", Check.INDEX, () -> p.program(1));
        Check.due(6, "no machine", Check.INDEX, () -> p.program(-1));
        for (int i = 0; i < 24; i++) {
            int due = i;
            Check.due(6, "program", due, () -> p.program(0));
        }
        Check.due(6, "too many", Check.STATE, () -> p.program(0));
        Check.due(6, "no machine first", Check.INDEX, () -> p.program(1));
        Check.due(6, "empty", 0, () -> p.length(23));
    }

    private static void instructions() {
        Peepholery p = Check.bench(2, 0);
        p.machine(2, 2);
        p.program(0);
        p.program(1);
        Check.due(7, "first", 1, () -> p.add(0, 'm', 2, true, 3));
        Check.due(7, "no program first", Check.INDEX, () -> p.add(2, 'q', 0, false, 0));
        Check.due(7, "no letter", Check.ARGUMENT, () -> p.add(0, 'q', 0, false, 0));
        Check.due(7, "no register", Check.ARGUMENT, () -> p.add(0, 'm', 3, false, 0));
        Check.due(7, "no register", Check.ARGUMENT, () -> p.add(0, 'c', -1, false, 0));
        Check.due(7, "no source", Check.ARGUMENT, () -> p.add(0, 'm', 0, false, 3));
        Check.due(7, "no constant", Check.ARGUMENT, () -> p.add(0, 'm', 0, true, 4));
        Check.due(7, "no constant", Check.ARGUMENT, () -> p.add(0, 'm', 0, true, -1));
        Check.due(7, "no cells", Check.ARGUMENT, () -> p.add(0, 'L', 0, true, 0));
        Check.due(7, "cells", 1, () -> p.add(1, 'S', 1, false, 2));
        Check.due(7, "whatever is told for c", 2, () -> p.add(0, 'c', 1, true, 99));
        Check.due(12, "letter", 'm', () -> p.letterAt(0, 0));
        Check.due(12, "letter", 'c', () -> p.letterAt(0, 1));
        Check.due(12, "behind", Check.INDEX, () -> p.letterAt(0, 2));
        Check.due(12, "ahead", Check.INDEX, () -> p.letterAt(0, -1));
        Check.due(12, "no program", Check.INDEX, () -> p.letterAt(2, 0));
        Check.due(13, "constant", 253, () -> p.restAt(0, 0));
        Check.due(13, "the source of c is the register 0", 100, () -> p.restAt(0, 1));
        Check.due(13, "register", 102, () -> p.restAt(1, 0));
        Check.due(13, "behind", Check.INDEX, () -> p.restAt(0, 2));
        Check.due(13, "no program", Check.INDEX, () -> p.restAt(-1, 0));
        Check.due(11, "length", 2, () -> p.length(0));
        Check.due(11, "no program", Check.INDEX, () -> p.length(2));
        for (int i = 3; i <= 12; i++) {
            p.add(0, 'a', 0, true, 1);
        }
        Check.due(7, "thirteenth", Check.STATE, () -> p.add(0, 'a', 0, true, 1));
        p.loop(0, 0, 1, 0);
        Check.due(7, "a loop counts ahead of the number", Check.UNSUPPORTED, () -> p.add(0, 'a', 0, true, 1));
        Check.due(7, "and no letter ahead of the loop", Check.ARGUMENT, () -> p.add(0, 'q', 0, true, 1));
        Check.due(8, "one off", 0, () -> p.drop(1));
        Check.due(8, "none", Check.NONE, () -> p.drop(1));
        Check.due(8, "a loop", Check.UNSUPPORTED, () -> p.drop(0));
        Check.due(8, "no program", Check.INDEX, () -> p.drop(2));
        Check.due(8, "nothing is changed", 12, () -> p.length(0));
    }

    private static void loops() {
        Peepholery p = Check.bench(3, 0);
        int code = Check.code(p, 0, "m1#2 s0#1 a2r1 c2");
        Check.due(9, "no program first", Check.INDEX, () -> p.loop(1, 0, 0, 0));
        for (int[] odd : new int[][] {{1, 1, 0}, {2, 1, 0}, {-1, 1, 0}, {0, 5, 0}, {0, 1, 3}, {0, 1, -1}}) {
            Check.due(9, "no such part", Check.ARGUMENT, () -> p.loop(code, odd[0], odd[1], odd[2]));
        }
        Check.due(10, "no loop", Check.UNSUPPORTED, () -> p.unroll(code, 1));
        Check.due(9, "part", 2, () -> p.loop(code, 1, 3, 0));
        Check.due(9, "a second one", Check.UNSUPPORTED, () -> p.loop(code, 1, 3, 0));
        Check.due(9, "the part counts first", Check.ARGUMENT, () -> p.loop(code, 3, 3, 0));
        Check.due(10, "out of range", Check.ARGUMENT, () -> p.unroll(code, 5));
        Check.due(10, "out of range", Check.ARGUMENT, () -> p.unroll(code, -1));
        Check.due(10, "no program", Check.INDEX, () -> p.unroll(1, 9));
        Check.due(10, "none", 1, () -> p.unroll(code, 0));
        Check.due(10, "twice", 2, () -> p.unroll(code, 2));
        Check.due(10, "four times", 3, () -> p.unroll(code, 4));
        Check.due(10, "the part is gone", "m1#2 c2", () -> Check.told(p, 1));
        Check.due(10, "the part is there twice", "m1#2 s0#1 a2r1 s0#1 a2r1 c2", () -> Check.told(p, 2));
        Check.due(10, "no loop of its own", 11, () -> p.add(3, 'm', 0, true, 0));
        int more = Check.code(p, 0, "m0#1 m0#1 m0#1 m0#1 m0#1 m0#1 m0#1");
        p.loop(more, 1, 6, 0);
        Check.due(10, "12 are not too many", 5, () -> p.unroll(more, 2));
        Check.due(10, "12 are not too many", 12, () -> p.length(5));
        Check.due(10, "17 are", Check.UNSUPPORTED, () -> p.unroll(more, 3));
        while (p.program(0) < 23) {
            continue;
        }
        Check.due(10, "no room", Check.STATE, () -> p.unroll(code, 2));
        Check.due(10, "too long counts ahead of no room", Check.UNSUPPORTED, () -> p.unroll(more, 3));
    }
}
