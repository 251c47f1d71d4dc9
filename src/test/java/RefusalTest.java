import java.util.ArrayList;
import java.util.List;
import java.util.function.Function;

/**
 * Of several conditions that apply, the exception that is listed first is thrown, and what is refused changes
 * nothing: each call here is made on a bench that has no room for more, and on one that has, and what can be
 * asked behind it is what is answered without it.
 */
public final class RefusalTest {
    private static final int FULL = 12;
    private static final int LOOPED = 1;
    private static final int EMPTY = 2;
    private static final int WIDE = 3;
    private static final int FOREIGN = 4;
    private static final int SINGLE = 5;
    /** Targets: the register 0, too many states, and what no empty program fits. */
    private static final int SAME = 0;
    private static final int GREAT = 1;
    private static final int TURNED = 2;

    private final int promise;
    private final String what;
    private final Object due;
    private final Function<Peepholery, Object> call;

    private RefusalTest(int promise, String what, Object due, Function<Peepholery, Object> call) {
        this.promise = promise;
        this.what = what;
        this.due = due;
        this.call = call;
    }

    public static void main(String[] arguments) {
        List<RefusalTest> rows = new ArrayList<>();
        machines(rows);
        programs(rows);
        runs(rows);
        costs(rows);
        targets(rows);
        searches(rows);
        rules(rows);
        terms(rows);
        for (RefusalTest row : rows) {
            Check.due(row.promise, row.what, row.due, () -> row.call.apply(bench(true)));
            changesNothing(row, true);
            changesNothing(row, false);
        }
        emptyOnes();
        Check.end("RefusalTest");
    }

    private static void changesNothing(RefusalTest row, boolean isFull) {
        Peepholery p = bench(isFull);
        try {
            row.call.apply(p);
        } catch (RuntimeException e) {
            String due = told(bench(isFull), isFull);
            Check.due(row.promise, row.what + " changes nothing", due, () -> told(p, isFull));
        }
    }

    private static Peepholery bench(boolean isFull) {
        Peepholery p = new Peepholery();
        for (int bits : isFull ? new int[] {3, 5, 2, 2} : new int[] {3, 5}) {
            p.machine(bits, 0);
        }
        p.quirk(0, 0, true);
        p.tell(0, 'g', 3, 2, 1, 5);
        p.allow(0, 'r', false);
        Check.code(p, 0, Check.times("a0#1", FULL));
        Check.code(p, 0, Check.times("s1#1", FULL));
        p.loop(LOOPED, 0, 3, 1);
        Check.code(p, 0, "");
        Check.code(p, 1, "c0 c1 c2");
        Check.code(p, 1, "m0r0");
        Check.code(p, 0, "m0r0");
        Check.formula(p, 0, "A");
        Check.formula(p, 1, "ABC&&");
        Check.formula(p, 0, "A~");
        p.learn(SINGLE, EMPTY, 1);
        p.leaf('A');
        p.leaf('B');
        p.term('~', 0, 0);
        p.join(1, 2);
        p.run(SINGLE, 5, 3, 6, true);
        p.type('+');
        for (int i = 0; i < 5; i++) {
            p.put(31 - i);
        }
        if (isFull) {
            fill(p);
        }
        return p;
    }

    private static void fill(Peepholery p) {
        for (int i = 6; i < 24; i++) {
            p.program(2);
        }
        for (int i = 3; i < 10; i++) {
            p.target(EMPTY, 1);
        }
        for (int i = 1; i < 12; i++) {
            p.learn(SINGLE, EMPTY, 1);
        }
        for (int i = 3; i < 60; i++) {
            p.term('-', i - 1, 0);
        }
        for (int i = 1; i < 20; i++) {
            p.type('A');
        }
        for (int i = 5; i < 32; i++) {
            p.put(0);
        }
    }

    /** All that can be asked of the bench, by at most 280 calls; the last ones ask by changing. */
    private static String told(Peepholery p, boolean isFull) {
        StringBuilder told = new StringBuilder();
        for (int i = 0; i < (isFull ? 24 : 6); i++) {
            told.append(i < 6 ? Check.told(p, i) : "").append(p.length(i)).append('/');
        }
        for (int i = 0; i < (isFull ? 10 : 3); i++) {
            told.append(p.choices(i)).append(i % 3 == GREAT ? "" : p.fits(EMPTY, i) + "/");
        }
        for (int i = 0; i < (isFull ? 12 : 1); i++) {
            told.append(p.generals(i)).append(p.isValid(i)).append('/');
        }
        for (int i = 0; i < (isFull ? 60 : 3); i++) {
            told.append(p.classOf(i)).append('/');
        }
        told.append(p.word(0)).append(p.word(1)).append(p.word(2)).append(p.carry()).append(p.run(LOOPED, 1, 2, 3, false));
        told.append(p.meanSize()).append(p.cycles(SINGLE)).append(p.energy(0)).append(p.best(2)).append('/');
        for (int i = 0; i < (isFull ? 4 : 2); i++) {
            told.append(p.quirk(i, 0, i == 0)).append(p.quirk(i, 1, false)).append(p.allow(i, 'm', true)).append('/');
            told.append(p.tell(i, 'g', 1, 1, 0, 1)).append(p.tell(i, 'm', 1, 1, 0, 1)).append('/');
        }
        next(told, () -> p.machine(2, 0));
        next(told, () -> p.program(0));
        next(told, () -> p.target(EMPTY, 1));
        next(told, () -> p.learn(SINGLE, EMPTY, 1));
        next(told, () -> p.leaf('9'));
        next(told, () -> p.formula(0));
        next(told, () -> p.table(1));
        return told.append(p.wipe()).toString();
    }

    private static void next(StringBuilder told, Check.Call call) {
        try {
            told.append(call.answer());
        } catch (RuntimeException e) {
            told.append(e.getClass().getSimpleName());
        }
        told.append('/');
    }

    private static void row(List<RefusalTest> rows, int promise, String what, Object due, Function<Peepholery, Object> call) {
        rows.add(new RefusalTest(promise, what, due, call));
    }

    private static void machines(List<RefusalTest> rows) {
        row(rows, 2, "bits ahead of four machines", Check.ARGUMENT, p -> p.machine(6, 0));
        row(rows, 2, "cells ahead of four machines", Check.ARGUMENT, p -> p.machine(2, 3));
        row(rows, 2, "four machines", Check.STATE, p -> p.machine(2, 0));
        row(rows, 3, "no machine ahead of no quirk", Check.INDEX, p -> p.quirk(4, 2, true));
        row(rows, 3, "no quirk", Check.ARGUMENT, p -> p.quirk(0, 2, true));
        row(rows, 4, "no machine ahead of no letter", Check.INDEX, p -> p.tell(4, 'q', 1, 1, 0, 1));
        row(rows, 4, "no machine ahead of a number", Check.INDEX, p -> p.tell(-1, 'm', 0, 1, 0, 1));
        row(rows, 4, "no letter", Check.ARGUMENT, p -> p.tell(0, 'q', 2, 2, 1, 2));
        row(rows, 4, "the last number", Check.ARGUMENT, p -> p.tell(0, 'm', 2, 2, 1, 100));
        row(rows, 5, "no machine ahead of no letter", Check.INDEX, p -> p.allow(4, 'q', true));
        row(rows, 5, "no machine ahead of cells", Check.INDEX, p -> p.allow(4, 'L', true));
        row(rows, 5, "no cells", Check.ARGUMENT, p -> p.allow(0, 'L', true));
        row(rows, 37, "no machine ahead of a number", Check.INDEX, p -> p.magic(4, 0));
        row(rows, 45, "no machine ahead of a number", Check.INDEX, p -> p.windows(4, 0));
    }

    private static void programs(List<RefusalTest> rows) {
        row(rows, 6, "no machine ahead of 24 programs", Check.INDEX, p -> p.program(4));
        row(rows, 6, "24 programs", Check.STATE, p -> p.program(0));
        row(rows, 7, "no program ahead of no letter", Check.INDEX, p -> p.add(24, 'q', 0, true, 0));
        row(rows, 7, "no letter ahead of a loop", Check.ARGUMENT, p -> p.add(LOOPED, 'q', 0, true, 0));
        row(rows, 7, "no register ahead of a loop", Check.ARGUMENT, p -> p.add(LOOPED, 'm', 3, true, 0));
        row(rows, 7, "no constant ahead of a loop", Check.ARGUMENT, p -> p.add(LOOPED, 'm', 0, true, 8));
        row(rows, 7, "no cells ahead of a loop", Check.ARGUMENT, p -> p.add(LOOPED, 'S', 0, true, 0));
        row(rows, 7, "no letter ahead of 12 instructions", Check.ARGUMENT, p -> p.add(0, 'q', 0, true, 0));
        row(rows, 7, "no source ahead of 12 instructions", Check.ARGUMENT, p -> p.add(0, 'm', 0, false, 3));
        row(rows, 7, "a loop ahead of 12 instructions", Check.UNSUPPORTED, p -> p.add(LOOPED, 'm', 0, true, 0));
        row(rows, 7, "12 instructions", Check.STATE, p -> p.add(0, 'm', 0, true, 0));
        row(rows, 8, "no program", Check.INDEX, p -> p.drop(24));
        row(rows, 8, "a loop", Check.UNSUPPORTED, p -> p.drop(LOOPED));
        row(rows, 8, "no instruction", Check.NONE, p -> p.drop(EMPTY));
        row(rows, 9, "no program ahead of no part", Check.INDEX, p -> p.loop(24, 1, 1, 0));
        row(rows, 9, "no part ahead of a loop", Check.ARGUMENT, p -> p.loop(LOOPED, 1, 13, 0));
        row(rows, 9, "no register ahead of a loop", Check.ARGUMENT, p -> p.loop(LOOPED, 0, 1, 3));
        row(rows, 9, "a loop", Check.UNSUPPORTED, p -> p.loop(LOOPED, 0, 1, 0));
        row(rows, 10, "no program ahead of the times", Check.INDEX, p -> p.unroll(24, 5));
        row(rows, 10, "the times ahead of no loop", Check.ARGUMENT, p -> p.unroll(EMPTY, 5));
        row(rows, 10, "the times ahead of too long and of 24 programs", Check.ARGUMENT, p -> p.unroll(LOOPED, 5));
        row(rows, 10, "no loop ahead of 24 programs", Check.UNSUPPORTED, p -> p.unroll(EMPTY, 1));
        row(rows, 10, "too long ahead of 24 programs", Check.UNSUPPORTED, p -> p.unroll(LOOPED, 2));
        row(rows, 10, "24 programs", Check.STATE, p -> p.unroll(LOOPED, 1));
        row(rows, 12, "no instruction", Check.INDEX, p -> p.letterAt(EMPTY, 0));
        row(rows, 13, "no instruction", Check.INDEX, p -> p.restAt(0, 12));
    }

    private static void runs(List<RefusalTest> rows) {
        row(rows, 14, "no program ahead of no word", Check.INDEX, p -> p.run(24, 8, 0, 0, false));
        row(rows, 14, "no word", Check.ARGUMENT, p -> p.run(LOOPED, 1, 2, 8, false));
        row(rows, 15, "no register", Check.INDEX, p -> p.word(3));
        row(rows, 17, "no cell", Check.NONE, p -> p.cell(0));
        row(rows, 18, "no program ahead of what is live", Check.INDEX, p -> p.areEqual(24, 0, 32));
        row(rows, 18, "no other one ahead of what is live", Check.INDEX, p -> p.areEqual(0, 24, 32));
        row(rows, 18, "what is live ahead of unlike machines", Check.ARGUMENT, p -> p.areEqual(0, WIDE, 32));
        row(rows, 18, "what is live ahead of the states", Check.ARGUMENT, p -> p.areEqual(WIDE, WIDE, -1));
        row(rows, 18, "unlike machines", Check.UNSUPPORTED, p -> p.areEqual(0, FOREIGN, 1));
        row(rows, 19, "no program ahead of what is live", Check.INDEX, p -> p.differsAt(-1, 0, 32));
        row(rows, 19, "no other one ahead of unlike machines", Check.INDEX, p -> p.differsAt(FOREIGN, 24, 1));
        row(rows, 19, "what is live ahead of unlike machines", Check.ARGUMENT, p -> p.differsAt(0, WIDE, 32));
        row(rows, 19, "what is live ahead of the states", Check.ARGUMENT, p -> p.differsAt(WIDE, WIDE, -1));
        row(rows, 20, "no program ahead of what is live", Check.INDEX, p -> p.liveAt(24, 0, 32));
        row(rows, 20, "no place ahead of what is live", Check.INDEX, p -> p.liveAt(0, 13, 32));
        row(rows, 20, "no place ahead of a loop", Check.INDEX, p -> p.liveAt(LOOPED, 13, 1));
        row(rows, 20, "what is live ahead of a loop", Check.ARGUMENT, p -> p.liveAt(LOOPED, 12, 32));
        row(rows, 20, "a loop", Check.UNSUPPORTED, p -> p.liveAt(LOOPED, 12, 31));
        row(rows, 21, "no program ahead of what is live", Check.INDEX, p -> p.clean(24, 32));
        row(rows, 21, "what is live ahead of a loop", Check.ARGUMENT, p -> p.clean(LOOPED, 32));
        row(rows, 21, "a loop", Check.UNSUPPORTED, p -> p.clean(LOOPED, 0));
        row(rows, 21, "what is live", Check.ARGUMENT, p -> p.clean(0, 32));
    }

    private static void costs(List<RefusalTest> rows) {
        row(rows, 22, "no program", Check.INDEX, p -> p.size(24));
        row(rows, 23, "no program", Check.INDEX, p -> p.cycles(24));
        row(rows, 23, "a loop", Check.UNSUPPORTED, p -> p.cycles(LOOPED));
        row(rows, 24, "no program", Check.INDEX, p -> p.energy(24));
        row(rows, 25, "no program ahead of what is live", Check.INDEX, p -> p.front(24, 32));
        row(rows, 25, "what is live ahead of the states", Check.ARGUMENT, p -> p.front(FOREIGN, 32));
        row(rows, 25, "the states", Check.UNSUPPORTED, p -> p.front(FOREIGN, 1));
        row(rows, 38, "no program", Check.INDEX, p -> p.stays(24));
        row(rows, 38, "no loop", Check.UNSUPPORTED, p -> p.stays(WIDE));
    }

    private static void targets(List<RefusalTest> rows) {
        row(rows, 26, "no program ahead of what is live", Check.INDEX, p -> p.target(24, 0));
        row(rows, 26, "what is live ahead of a loop", Check.ARGUMENT, p -> p.target(LOOPED, 0));
        row(rows, 26, "what is live ahead of ten targets", Check.ARGUMENT, p -> p.target(0, 32));
        row(rows, 26, "a loop ahead of ten targets", Check.UNSUPPORTED, p -> p.target(LOOPED, 1));
        row(rows, 26, "ten targets", Check.STATE, p -> p.target(0, 1));
        row(rows, 27, "no sign ahead of 20 signs", Check.ARGUMENT, p -> p.type('q'));
        row(rows, 27, "20 signs", Check.STATE, p -> p.type('A'));
        row(rows, 28, "no machine ahead of the text", Check.INDEX, p -> p.formula(4));
        row(rows, 28, "the text ahead of ten targets", Check.UNSUPPORTED, p -> p.formula(0));
        row(rows, 29, "out of range ahead of 32 numbers", Check.ARGUMENT, p -> p.put(32));
        row(rows, 29, "32 numbers", Check.STATE, p -> p.put(31));
        row(rows, 30, "no machine ahead of the row", Check.INDEX, p -> p.table(4));
        row(rows, 30, "the row ahead of ten targets", Check.UNSUPPORTED, p -> p.table(0));
        row(rows, 30, "ten targets", Check.STATE, p -> p.table(1));
        row(rows, 32, "no program", Check.INDEX, p -> p.fits(24, SAME));
        row(rows, 32, "no target", Check.INDEX, p -> p.fits(WIDE, 10));
        row(rows, 32, "unlike machines", Check.UNSUPPORTED, p -> p.fits(FOREIGN, SAME));
        row(rows, 32, "the states", Check.UNSUPPORTED, p -> p.fits(WIDE, GREAT));
        row(rows, 33, "no target", Check.INDEX, p -> p.choices(10));
    }

    private static void searches(List<RefusalTest> rows) {
        row(rows, 34, "no target ahead of the length", Check.INDEX, p -> p.shortest(10, 4));
        row(rows, 34, "no target ahead of 24 programs", Check.INDEX, p -> p.shortest(-1, 0));
        row(rows, 34, "the length ahead of the states", Check.ARGUMENT, p -> p.shortest(GREAT, 4));
        row(rows, 34, "the length ahead of none that fits", Check.ARGUMENT, p -> p.shortest(TURNED, -1));
        row(rows, 34, "the length ahead of 24 programs", Check.ARGUMENT, p -> p.shortest(SAME, 4));
        row(rows, 34, "the states ahead of 24 programs", Check.UNSUPPORTED, p -> p.shortest(GREAT, 0));
        row(rows, 34, "too many programs ahead of 24", Check.UNSUPPORTED, p -> p.shortest(SAME, 3));
        row(rows, 34, "none that fits ahead of 24 programs", Check.NONE, p -> p.shortest(TURNED, 0));
        row(rows, 34, "24 programs", Check.STATE, p -> p.shortest(SAME, 0));
        row(rows, 35, "no target ahead of the length", Check.INDEX, p -> p.walk(10, 0, 1, 0));
        row(rows, 35, "the length ahead of the states", Check.ARGUMENT, p -> p.walk(GREAT, 0, 1, 0));
        row(rows, 35, "the steps ahead of the states", Check.ARGUMENT, p -> p.walk(GREAT, 1, 201, 0));
        row(rows, 35, "the seed ahead of the states", Check.ARGUMENT, p -> p.walk(GREAT, 1, 1, 100000));
        row(rows, 35, "the states", Check.UNSUPPORTED, p -> p.walk(GREAT, 1, 1, 0));
        row(rows, 36, "no target ahead of no letter", Check.INDEX, p -> p.constantFor(10, 'q'));
        row(rows, 36, "no letter ahead of the states", Check.ARGUMENT, p -> p.constantFor(GREAT, 'q'));
        row(rows, 36, "no source ahead of the states", Check.ARGUMENT, p -> p.constantFor(GREAT, 'c'));
        row(rows, 36, "no cells ahead of the states", Check.ARGUMENT, p -> p.constantFor(GREAT, 'L'));
        row(rows, 36, "no source ahead of no constant", Check.ARGUMENT, p -> p.constantFor(TURNED, 'g'));
        row(rows, 36, "the states ahead of no constant", Check.UNSUPPORTED, p -> p.constantFor(GREAT, 'a'));
        row(rows, 36, "no constant", Check.NONE, p -> p.constantFor(TURNED, 'a'));
    }

    private static void rules(List<RefusalTest> rows) {
        row(rows, 39, "no program ahead of what is live", Check.INDEX, p -> p.learn(24, EMPTY, 32));
        row(rows, 39, "no other one ahead of what is live", Check.INDEX, p -> p.learn(SINGLE, 24, 32));
        row(rows, 39, "no other one ahead of a loop", Check.INDEX, p -> p.learn(LOOPED, 24, 1));
        row(rows, 39, "what is live ahead of a loop", Check.ARGUMENT, p -> p.learn(LOOPED, EMPTY, 32));
        row(rows, 39, "what is live ahead of unlike machines", Check.ARGUMENT, p -> p.learn(SINGLE, FOREIGN, 32));
        row(rows, 39, "what is live ahead of the size and 12 rules", Check.ARGUMENT, p -> p.learn(EMPTY, SINGLE, -1));
        row(rows, 39, "a loop ahead of 12 rules", Check.UNSUPPORTED, p -> p.learn(LOOPED, EMPTY, 0));
        row(rows, 39, "the size ahead of 12 rules", Check.UNSUPPORTED, p -> p.learn(EMPTY, SINGLE, 1));
        row(rows, 39, "unlike machines ahead of 12 rules", Check.UNSUPPORTED, p -> p.learn(WIDE, EMPTY, 0));
        row(rows, 39, "not equal ahead of 12 rules", Check.UNSUPPORTED, p -> p.learn(0, EMPTY, 1));
        row(rows, 39, "the states ahead of 12 rules", Check.UNSUPPORTED, p -> p.learn(WIDE, FOREIGN, 0));
        row(rows, 39, "12 rules", Check.STATE, p -> p.learn(SINGLE, EMPTY, 1));
        row(rows, 40, "no rule", Check.INDEX, p -> p.generals(12));
        row(rows, 41, "no rule ahead of what is live", Check.INDEX, p -> p.matches(12, SINGLE, 32));
        row(rows, 41, "no program ahead of what is live", Check.INDEX, p -> p.matches(0, 24, 32));
        row(rows, 41, "what is live ahead of a loop", Check.ARGUMENT, p -> p.matches(0, LOOPED, 32));
        row(rows, 41, "what is live ahead of another machine", Check.ARGUMENT, p -> p.matches(0, FOREIGN, 32));
        row(rows, 41, "what is live ahead of no match", Check.ARGUMENT, p -> p.matches(0, EMPTY, 32));
        row(rows, 41, "a loop ahead of no match", Check.UNSUPPORTED, p -> p.matches(0, LOOPED, 1));
        row(rows, 41, "another machine ahead of no match", Check.UNSUPPORTED, p -> p.matches(0, WIDE, 1));
        row(rows, 41, "no match", Check.NONE, p -> p.matches(0, 0, 1));
        row(rows, 42, "no program ahead of what is live", Check.INDEX, p -> p.rewrite(24, 32));
        row(rows, 42, "what is live ahead of a loop", Check.ARGUMENT, p -> p.rewrite(LOOPED, 32));
        row(rows, 42, "what is live", Check.ARGUMENT, p -> p.rewrite(SINGLE, 32));
        row(rows, 42, "a loop", Check.UNSUPPORTED, p -> p.rewrite(LOOPED, 0));
        row(rows, 43, "no rule", Check.INDEX, p -> p.isValid(12));
        row(rows, 44, "no rule", Check.INDEX, p -> p.prove(12));
        row(rows, 45, "out of range", Check.ARGUMENT, p -> p.windows(0, 5));
    }

    private static void terms(List<RefusalTest> rows) {
        row(rows, 46, "no sign ahead of 60 terms", Check.ARGUMENT, p -> p.leaf('q'));
        row(rows, 46, "60 terms", Check.STATE, p -> p.leaf('C'));
        row(rows, 47, "no term ahead of no operator", Check.INDEX, p -> p.term('/', 60, 0));
        row(rows, 47, "no term ahead of 60 terms", Check.INDEX, p -> p.term('~', 60, 0));
        row(rows, 47, "no second term ahead of 60 terms", Check.INDEX, p -> p.term('+', 0, 60));
        row(rows, 47, "no operator ahead of 60 terms", Check.ARGUMENT, p -> p.term('/', 0, 0));
        row(rows, 47, "60 terms", Check.STATE, p -> p.term('*', 0, 0));
        row(rows, 48, "no first term", Check.INDEX, p -> p.join(60, 0));
        row(rows, 48, "no second term", Check.INDEX, p -> p.join(0, 60));
        row(rows, 49, "no term", Check.INDEX, p -> p.classOf(60));
        row(rows, 50, "no law", Check.ARGUMENT, p -> p.law('q'));
        row(rows, 51, "no term", Check.INDEX, p -> p.cost(60));
        row(rows, 52, "no term", Check.INDEX, p -> p.best(60));
        row(rows, 53, "no term ahead of eleven classes", Check.INDEX, p -> p.shared(60));
        row(rows, 53, "eleven classes", Check.UNSUPPORTED, p -> p.shared(0));
        row(rows, 54, "no term ahead of the bits", Check.INDEX, p -> p.value(60, 6, 0, 0, 0));
        row(rows, 54, "no term ahead of a word", Check.INDEX, p -> p.value(60, 2, 4, 0, 0));
        row(rows, 54, "the bits", Check.ARGUMENT, p -> p.value(0, 6, 0, 0, 0));
        row(rows, 54, "a word", Check.ARGUMENT, p -> p.value(0, 2, 0, 0, 4));
    }

    /** Where nothing was run, learned or made. */
    private static void emptyOnes() {
        Peepholery p = Check.bench(2, 1);
        Check.due(15, "no register ahead of no run", Check.INDEX, () -> p.word(3));
        Check.due(15, "no run", Check.NONE, () -> p.word(2));
        Check.due(16, "no run", Check.NONE, p::carry);
        Check.due(17, "no run", Check.NONE, () -> p.cell(0));
        Check.due(55, "no rules", Check.ARITHMETIC, p::validShare);
        Check.due(56, "no programs", Check.ARITHMETIC, p::meanSize);
        p.program(0);
        p.add(0, 'n', 0, true, 3);
        Check.due(14, "no word", Check.ARGUMENT, () -> p.run(0, 4, 0, 0, false));
        Check.due(16, "a refused run is none", Check.NONE, p::carry);
        int none = p.program(0);
        p.learn(0, none, 9);
        p.quirk(0, 0, true);
        p.prove(0);
        Check.due(44, "gone for good", Check.UNSUPPORTED, () -> p.prove(0));
        p.quirk(0, 0, false);
        Check.due(44, "gone for good still", Check.UNSUPPORTED, () -> p.prove(0));
        Check.due(43, "gone for good still", false, () -> p.isValid(0));
        Check.due(55, "none of one", 0f, p::validShare);
    }
}
