/** Promises 39 to 45: rules that are learned, matched, applied, and proved anew, and windows. */
public final class RuleTest {
    private RuleTest() {
    }

    public static void main(String[] arguments) {
        learning();
        wrongLearning();
        generals();
        matching();
        renaming();
        live();
        wrongMatches();
        rewriting();
        limits();
        validity();
        windows();
        Check.end("RuleTest");
    }

    private static void learning() {
        Peepholery p = Check.bench(3, 0);
        int first = Check.code(p, 0, "a0#3 s0#3");
        int second = Check.code(p, 0, "");
        Check.due(39, "first", 0, () -> p.learn(first, second, 1));
        Check.due(39, "again", 1, () -> p.learn(first, second, 1));
        p.drop(first);
        Check.write(p, second, "m0#1");
        int code = Check.code(p, 0, "a0#1 s0#1");
        Check.due(39, "as they were then", 0, () -> p.matches(0, code, 1));
        Check.due(42, "as they were then", 1, () -> p.rewrite(code, 1));
        Check.due(42, "as they were then", "", () -> Check.told(p, code));
        int empty = Check.code(p, 0, "");
        int one = Check.code(p, 0, "a0#0");
        for (int i = 2; i < 12; i++) {
            p.learn(one, empty, 1);
        }
        Check.due(39, "thirteenth", Check.STATE, () -> p.learn(one, empty, 1));
        Check.due(39, "not equal first", Check.UNSUPPORTED, () -> p.learn(one, empty, 8));
    }

    private static void wrongLearning() {
        Peepholery p = Check.bench(3, 0);
        p.machine(3, 0);
        int two = Check.code(p, 0, "c0 c0");
        int none = Check.code(p, 0, "");
        int foreign = Check.code(p, 1, "");
        Check.due(39, "no program", Check.INDEX, () -> p.learn(two, 3, 32));
        Check.due(39, "no program", Check.INDEX, () -> p.learn(-1, two, 1));
        Check.due(39, "out of range", Check.ARGUMENT, () -> p.learn(none, two, 32));
        Check.due(39, "not of less size", Check.UNSUPPORTED, () -> p.learn(none, two, 1));
        Check.due(39, "itself", Check.UNSUPPORTED, () -> p.learn(two, two, 1));
        Check.due(39, "unlike machines", Check.UNSUPPORTED, () -> p.learn(two, foreign, 1));
        int other = Check.code(p, 0, "c0");
        Check.due(39, "not equal", Check.UNSUPPORTED, () -> p.learn(two, other, 1));
        Check.due(39, "equal in nothing", 0, () -> p.learn(two, other, 0));
        int looped = Check.code(p, 0, "m0r0");
        p.loop(looped, 0, 1, 1);
        Check.due(39, "a loop", Check.UNSUPPORTED, () -> p.learn(looped, none, 0));
        Check.due(39, "a loop", Check.UNSUPPORTED, () -> p.learn(two, looped, 0));
        Peepholery q = Check.bench(5, 0);
        int all = Check.code(q, 0, "m0r0 m1r1 m2r2");
        int empty = Check.code(q, 0, "");
        Check.due(39, "too many states", Check.UNSUPPORTED, () -> q.learn(all, empty, 1));
        q.tell(0, 'c', 3, 1, 0, 1);
        int single = Check.code(q, 0, "c0");
        int sum = Check.code(q, 0, "x0#31");
        Check.due(39, "less size, not fewer instructions", 0, () -> q.learn(single, sum, 1));
    }

    private static void generals() {
        Object[][] due = {
            {"a0#3 s0#3", "", 1, 1}, {"m0#2 m0#3", "m0#3", 1, 2}, {"a0#0", "", 1, 0}, {"a0#1 a0#2", "a0#3", 1, 0},
            {"x0#5 m1#5 x0#5", "m1#5", 3, 1}, {"c0 c0", "", 1, 0}, {"x0#1 x0#2 x0#1", "x0#2", 1, 2},
            {"m0#7 n0#7", "m0#7", 1, 1}, {"m0#7 n0#6", "m0#6", 1, 1},
            {"m0#0 s0#3 m0#0 m0#0", "m0#0 s0#1 m0#0", 9, 0},
        };
        for (Object[] d : due) {
            Peepholery p = Check.bench(3, 0);
            int first = Check.code(p, 0, (String) d[0]);
            int second = Check.code(p, 0, (String) d[1]);
            p.learn(first, second, (int) d[2]);
            Check.due(40, "of " + d[0], d[3], () -> p.generals(0));
        }
        Peepholery p = Check.bench(3, 0);
        Check.due(40, "no rule", Check.INDEX, () -> p.generals(0));
        Check.due(40, "no rule", Check.INDEX, () -> p.generals(-1));
    }

    /** A bench with one rule on the machine 0. */
    private static Peepholery ruled(String first, String second, int live) {
        Peepholery p = Check.bench(3, 1);
        p.learn(Check.code(p, 0, first), Check.code(p, 0, second), live);
        return p;
    }

    private static void matching() {
        Peepholery p = ruled("a0#3 s0#3", "", 1);
        Object[][] due = {
            {"a0#3 s0#3", 1, 0}, {"m1#1 a2#5 s2#5", 4, 1}, {"a0#3 s0#4", 1, Check.NONE}, {"a0#3 s1#3", 1, Check.NONE},
            {"a0r1 s0r1", 1, Check.NONE}, {"a0#3 m1#1 s0#3", 1, Check.NONE}, {"s0#3 a0#3", 1, Check.NONE},
            {"a0#1 s0#1 a0#2 s0#2", 1, 0}, {"a0#3", 1, Check.NONE}, {"", 1, Check.NONE}, {"a0#3 s0#3", 0, 0},
            {"a0#3 s0#3", 9, Check.NONE}, {"a0#3 s0#3 a1#1", 9, 0}, {"a0#3 s0#3 u1#1", 1, Check.NONE},
        };
        for (Object[] d : due) {
            int code = Check.code(p, 0, (String) d[0]);
            Check.due(41, d[0] + " live " + d[1], d[2], () -> p.matches(0, code, (int) d[1]));
        }
        Peepholery q = ruled("m0#7 n0#6", "m0#6", 1);
        int alike = Check.code(q, 0, "m1#7 n1#6");
        int unlike = Check.code(q, 0, "m1#3 n1#6");
        int general = Check.code(q, 0, "m1#7 n1#5");
        Check.due(41, "constants alike", 0, () -> q.matches(0, alike, 2));
        Check.due(41, "or general", 0, () -> q.matches(0, general, 2));
        Check.due(41, "constants unlike", Check.NONE, () -> q.matches(0, unlike, 2));
        Peepholery r = ruled("m0#2 m0#3", "m0#3", 1);
        int same = Check.code(r, 0, "m1#4 m1#4");
        Check.due(41, "two general ones may be the same", 0, () -> r.matches(0, same, 2));
        Peepholery s = ruled("c0 c0", "", 1);
        int turned = Check.code(s, 0, "c2 c2");
        Check.due(41, "without sources", 0, () -> s.matches(0, turned, 4));
    }

    private static void renaming() {
        Peepholery p = ruled("m0r1 m1r0", "m0r1", 3);
        Object[][] due = {
            {"m0r1 m1r0", 0}, {"m2r0 m0r2", 0}, {"m1r1 m1r1", Check.NONE}, {"m0r1 m0r1", Check.NONE},
            {"m0r1 m1r2", Check.NONE}, {"m0#1 m1r0", Check.NONE},
        };
        for (Object[] d : due) {
            int code = Check.code(p, 0, (String) d[0]);
            Check.due(41, (String) d[0], d[1], () -> p.matches(0, code, 7));
        }
        Peepholery q = ruled("x0r0", "", 8);
        int own = Check.code(q, 0, "x1r1");
        int other = Check.code(q, 0, "x1r2");
        Check.due(41, "one register twice", 0, () -> q.matches(0, own, 8));
        Check.due(41, "is not two", Check.NONE, () -> q.matches(0, other, 8));
    }

    private static void live() {
        Peepholery p = ruled("m1#1 a0r1", "a0#1", 1);
        Object[][] due = {
            {"m1#1 a0r1", 1, 0}, {"m1#1 a0r1", 3, Check.NONE}, {"m0#1 a1r0", 2, 0}, {"m0#1 a1r0", 1, Check.NONE},
            {"m1#1 a0r1 m1#0", 3, 0}, {"m1#1 a0r1 g0 s1r1", 1, Check.NONE}, {"m1#1 a0r1 m1#0 a2#0", 3, 0},
            {"m1#1 a0r1", 5, 0}, {"m1#1 a0r1", 17, 0}, {"m2#1 a0r2", 3, 0},
        };
        for (Object[] d : due) {
            int code = Check.code(p, 0, (String) d[0]);
            Check.due(41, d[0] + " live " + d[1], d[2], () -> p.matches(0, code, (int) d[1]));
        }
        int carry = Check.code(p, 0, "m1#1 a0r1");
        Check.due(41, "the carry is live", Check.NONE, () -> p.matches(0, carry, 9));
        Peepholery q = ruled("S0#0 S0#0", "S0#0", 16);
        int stores = Check.code(q, 0, "S1#0 S1#0");
        Check.due(41, "cells are live for it", 0, () -> q.matches(0, stores, 16));
        Peepholery r = ruled("S0#0 S0#0", "S0#0", 1);
        int again = Check.code(r, 0, "S1#0 S1#0");
        Check.due(41, "cells are not live for it", Check.NONE, () -> r.matches(0, again, 16));
        Check.due(41, "nor for the program", 0, () -> r.matches(0, again, 15));
        Peepholery s = Check.bench(3, 0);
        s.tell(0, 'c', 9, 1, 0, 1);
        s.learn(Check.code(s, 0, "c0"), Check.code(s, 0, "g0 s0#1"), 1);
        int turn = Check.code(s, 0, "c1");
        Check.due(41, "what the second one changes counts, too", Check.NONE, () -> s.matches(0, turn, 10));
        Check.due(41, "if it is live", 0, () -> s.matches(0, turn, 2));
    }

    private static void wrongMatches() {
        Peepholery p = ruled("c0 c0", "", 1);
        p.machine(3, 1);
        int code = Check.code(p, 0, "c0 c0");
        int foreign = Check.code(p, 1, "c0 c0");
        Check.due(41, "no rule", Check.INDEX, () -> p.matches(1, code, 32));
        Check.due(41, "no program", Check.INDEX, () -> p.matches(0, 9, 32));
        Check.due(41, "out of range", Check.ARGUMENT, () -> p.matches(0, foreign, 32));
        Check.due(41, "another machine", Check.UNSUPPORTED, () -> p.matches(0, foreign, 1));
        Check.due(42, "another machine", 0, () -> p.rewrite(foreign, 1));
        Check.due(42, "no program", Check.INDEX, () -> p.rewrite(9, 32));
        Check.due(42, "out of range", Check.ARGUMENT, () -> p.rewrite(code, -1));
        p.loop(code, 0, 1, 0);
        Check.due(41, "a loop", Check.UNSUPPORTED, () -> p.matches(0, code, 1));
        Check.due(42, "a loop", Check.UNSUPPORTED, () -> p.rewrite(code, 1));
        Check.due(42, "a loop counts last", Check.ARGUMENT, () -> p.rewrite(code, 32));
    }

    private static void rewriting() {
        Peepholery p = ruled("x0#5 m1#5 x0#5", "m1#5", 3);
        int code = Check.code(p, 0, "a1#1 x2#3 m0#3 x2#3 c2");
        Check.due(42, "once", 1, () -> p.rewrite(code, 7));
        Check.due(42, "renamed, general constants, too", "a1#1 m0#3 c2", () -> Check.told(p, code));
        Peepholery q = ruled("c0 c0", "", 1);
        int four = Check.code(q, 0, "c1 c1 c1 c1 c1");
        Check.due(42, "again and again", 2, () -> q.rewrite(four, 2));
        Check.due(42, "one is left", "c1", () -> Check.told(q, four));
        int inner = Check.code(q, 0, "c1 c0 c0 c1");
        Check.due(42, "one makes room for another", 2, () -> q.rewrite(inner, 7));
        Check.due(42, "none", 0, () -> q.rewrite(inner, 7));
        Peepholery r = ruled("a0#1 a0#1", "a0#2", 1);
        r.learn(Check.code(r, 0, "a0#1 a0#1"), Check.code(r, 0, "s0#6"), 1);
        int sum = Check.code(r, 0, "a0#1 a0#1 a0#1");
        r.rewrite(sum, 1);
        Check.due(42, "the lowest rule, the first window", "a0#2 a0#1", () -> Check.told(r, sum));
        int both = Check.code(r, 0, "a0#1 a0#1 a0#1");
        Check.due(42, "nothing where the carry is read", 1, () -> {
            r.add(both, 'u', 1, true, 0);
            return r.rewrite(both, 3);
        });
        Check.due(42, "the first window is free only", "a0#2 a0#1 u1#0", () -> Check.told(r, both));
    }

    private static void limits() {
        Peepholery p = Check.bench(3, 0);
        p.tell(0, 'c', 9, 1, 0, 1);
        p.learn(Check.code(p, 0, "c0"), Check.code(p, 0, "g0 s0#1"), 1);
        int long0 = Check.code(p, 0, "c0 c0 c0 c0 c0 c0 c0");
        Check.due(42, "as long as there are at most 12", 5, () -> p.rewrite(long0, 1));
        Check.due(42, "twelve", 12, () -> p.length(long0));
        Check.due(41, "no match that makes it longer", Check.NONE, () -> p.matches(0, long0, 1));
        Peepholery q = Check.bench(3, 0);
        q.learn(Check.code(q, 0, "m0r1 c2"), Check.code(q, 0, "m0r1"), 3);
        q.tell(0, 'p', 9, 1, 0, 1);
        q.learn(Check.code(q, 0, "p0#1"), Check.code(q, 0, "n1r1"), 1);
        int code = Check.code(q, 0, "p0#1");
        Check.due(42, "registers that the first one does not have", 0, () -> q.rewrite(code, 1));
        Peepholery r = Check.bench(3, 0);
        r.tell(0, 'a', 2, 1, 0, 1);
        r.learn(Check.code(r, 0, "a0#1"), Check.code(r, 0, "s0#7"), 1);
        r.tell(0, 's', 3, 1, 0, 1);
        r.learn(Check.code(r, 0, "s0#7"), Check.code(r, 0, "a0#1"), 1);
        int round = Check.code(r, 0, "a0#1");
        Check.due(42, "50 times", 50, () -> r.rewrite(round, 1));
        Check.due(42, "as at first", "a0#1", () -> Check.told(r, round));
    }

    private static void validity() {
        Peepholery p = ruled("n0#3 u0#0", "n0#3", 0);
        int carry = Check.code(p, 0, "a0#0 n0#7");
        int sum = Check.code(p, 0, "a0#0");
        p.learn(carry, sum, 9);
        int code = Check.code(p, 0, "a1#0 n1#7");
        Check.due(43, "at first", true, () -> p.isValid(1));
        Check.due(44, "proved while it is valid", true, () -> p.prove(1));
        p.quirk(0, 0, false);
        Check.due(43, "as before", true, () -> p.isValid(1));
        p.quirk(0, 0, true);
        Check.due(43, "another edition", false, () -> p.isValid(1));
        Check.due(41, "an invalid one matches nothing", Check.NONE, () -> p.matches(1, code, 2));
        Check.due(42, "an invalid one matches nothing", 0, () -> p.rewrite(code, 2));
        Check.due(44, "equal still: a makes the carry 0 here", true, () -> p.prove(1));
        Check.due(43, "valid again", true, () -> p.isValid(1));
        Check.due(41, "matches again", 0, () -> p.matches(1, code, 2));
        p.quirk(0, 0, false);
        Check.due(43, "the old edition does not come back", false, () -> p.isValid(1));
        Peepholery q = ruled("x0#3 x0#3", "", 9);
        q.quirk(0, 0, true);
        Check.due(44, "not equal any more", false, () -> q.prove(0));
        Peepholery r = ruled("s0#1 x0#3 x0#3", "s0#1", 9);
        r.quirk(0, 0, true);
        Check.due(44, "not equal in the first state", false, () -> r.prove(0));
        Check.due(43, "gone", false, () -> q.isValid(0));
        Check.due(44, "gone for good", Check.UNSUPPORTED, () -> q.prove(0));
        q.quirk(0, 0, false);
        Check.due(44, "gone for good", Check.UNSUPPORTED, () -> q.prove(0));
        Check.due(40, "its constants are told still", 1, () -> q.generals(0));
        Check.due(43, "no rule", Check.INDEX, () -> q.isValid(1));
        Check.due(44, "no rule", Check.INDEX, () -> q.prove(-1));
    }

    private static void windows() {
        Peepholery p = Check.bench(3, 1);
        p.machine(3, 1);
        Check.due(45, "no programs", 0, () -> p.windows(0, 1));
        Check.code(p, 0, "a0#3 a1#3 a1#4 a1r1 a1r2 a2r0");
        Check.due(45, "up to renaming", 4, () -> p.windows(0, 1));
        Check.due(45, "pairs", 5, () -> p.windows(0, 2));
        Check.due(45, "long ones", 3, () -> p.windows(0, 4));
        Check.code(p, 0, "c1 c2 c0 c0");
        Check.due(45, "without sources", 5, () -> p.windows(0, 1));
        Check.due(45, "c c: the same register, or another one", 7, () -> p.windows(0, 2));
        int looped = Check.code(p, 0, "g1 g1");
        p.loop(looped, 0, 2, 1);
        Check.due(45, "with loops, too", 8, () -> p.windows(0, 2));
        Check.code(p, 1, "m0#1");
        Check.due(45, "of the machine alone", 1, () -> p.windows(1, 1));
        Check.due(45, "too long", 0, () -> p.windows(1, 2));
        int zero = Check.code(p, 1, "m1r1");
        Check.due(45, "registers are not constants", 2, () -> p.windows(1, 1) + zero - zero);
        Check.due(45, "out of range", Check.ARGUMENT, () -> p.windows(0, 0));
        Check.due(45, "out of range", Check.ARGUMENT, () -> p.windows(0, 5));
        Check.due(45, "no machine first", Check.INDEX, () -> p.windows(2, 0));
        p.learn(Check.code(p, 1, "m0#6 m0#6"), Check.code(p, 1, "m0#6"), 1);
        int before = p.windows(1, 1);
        p.matches(0, Check.code(p, 1, "m1#5 m1#5"), 2);
        Check.due(45, "constants are as they are behind a match, too", before + 1, () -> p.windows(1, 1));
    }
}
