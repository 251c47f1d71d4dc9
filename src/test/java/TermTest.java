/** Promises 46 to 54: terms, their classes, laws, costs and values. */
public final class TermTest {
    private TermTest() {
    }

    public static void main(String[] arguments) {
        leaves();
        terms();
        joins();
        laws();
        lawOfTurning();
        lowestParts();
        lackOfRoom();
        costs();
        great();
        shares();
        values();
        wrongValues();
        Check.end("TermTest");
    }

    /** A bench with terms told like "A 0 +01 -2": leaves, and operators with the numbers of their parts. */
    private static Peepholery terms(String text) {
        Peepholery p = new Peepholery();
        grow(p, text);
        return p;
    }

    private static void grow(Peepholery p, String text) {
        for (String told : text.split(" ")) {
            if (told.length() == 1) {
                p.leaf(told.charAt(0));
            } else {
                int x = Character.digit(told.charAt(1), 36);
                p.term(told.charAt(0), x, told.length() > 2 ? Character.digit(told.charAt(2), 36) : 0);
            }
        }
    }

    private static void leaves() {
        Peepholery p = new Peepholery();
        Check.due(46, "first", 0, () -> p.leaf('A'));
        Check.due(46, "second", 1, () -> p.leaf('9'));
        Check.due(46, "is there", 0, () -> p.leaf('A'));
        for (char sign : "BC012345678".toCharArray()) {
            Check.due(46, "leaf " + sign, true, () -> p.leaf(sign) >= 2);
        }
        for (char sign : new char[] {'D', 'a', '+', '/', ':', '@', (char) 0}) {
            Check.due(46, "no leaf " + sign, Check.ARGUMENT, () -> p.leaf(sign));
        }
        Check.due(46, "none was added twice", 13, () -> p.term('~', 0, 0));
    }

    private static void terms() {
        Peepholery p = terms("A B");
        int next = 2;
        for (char sign : "+&|^*".toCharArray()) {
            int due = next;
            Check.due(47, "operator " + sign, due, () -> p.term(sign, 0, 1));
            Check.due(47, "is there", due, () -> p.term(sign, 0, 1));
            next++;
        }
        Check.due(47, "turned about it is another one", 7, () -> p.term('+', 1, 0));
        Check.due(47, "one part", 8, () -> p.term('-', 0, 99));
        Check.due(47, "the other part has no meaning", 8, () -> p.term('-', 0, -1));
        Check.due(47, "one part", 9, () -> p.term('~', 0, 0));
        Check.due(47, "no such part", Check.INDEX, () -> p.term('+', 10, 0));
        Check.due(47, "no such part", Check.INDEX, () -> p.term('+', 0, 10));
        Check.due(47, "no such part", Check.INDEX, () -> p.term('~', -1, 0));
        Check.due(47, "no operator", Check.ARGUMENT, () -> p.term('/', 0, 0));
        Check.due(47, "no operator", Check.ARGUMENT, () -> p.term('A', 0, 0));
        Check.due(47, "no part first", Check.INDEX, () -> p.term('/', 10, 0));
        p.join(0, 1);
        Check.due(47, "by the classes of parts, the lowest one", 2, () -> p.term('+', 1, 1));
        Check.due(47, "by the classes of parts", 9, () -> p.term('~', 1, 0));
    }

    private static void joins() {
        Peepholery p = terms("A B C +02 +12 ~3 ~4 &56");
        Check.due(49, "each in its own class", 6, () -> p.classOf(6));
        Check.due(48, "itself", 8, () -> p.join(3, 3));
        Check.due(48, "parts in the same classes, and so on", 5, () -> p.join(1, 0));
        Check.due(49, "the lowest term", 0, () -> p.classOf(1));
        Check.due(49, "joined, too", 3, () -> p.classOf(4));
        Check.due(49, "and these", 5, () -> p.classOf(6));
        Check.due(48, "again", 5, () -> p.join(0, 1));
        Check.due(48, "classes of several", 4, () -> p.join(4, 6));
        Check.due(49, "one of both", 3, () -> p.classOf(5));
        Check.due(48, "no term", Check.INDEX, () -> p.join(0, 8));
        Check.due(48, "no term", Check.INDEX, () -> p.join(-1, 0));
        Check.due(49, "no term", Check.INDEX, () -> p.classOf(8));
        Check.due(49, "no term", Check.INDEX, () -> p.classOf(-1));
        Peepholery q = terms("A B +01 +10");
        Check.due(48, "operands in the same classes", 2, () -> q.join(0, 1));
        Peepholery r = terms("A B +01 *01");
        Check.due(48, "not another operator", 3, () -> r.join(0, 1));
    }

    private static void laws() {
        Object[][] due = {
            // terms, law, a term, its class behind it, how many classes there are
            {"A 0 +01", 'z', 2, 0, 2}, {"A 0 |01", 'z', 2, 0, 2}, {"A 0 ^01", 'z', 2, 0, 2}, {"A 0 *01", 'z', 2, 1, 2},
            {"A 0 &01", 'z', 2, 1, 2}, {"A 0 +10", 'z', 2, 2, 3}, {"A 1 *01", 'o', 2, 0, 2}, {"A 1 *10", 'o', 2, 2, 3},
            {"A 1 &01", 'o', 2, 2, 3}, {"A &00", 'i', 1, 0, 1}, {"A |00", 'i', 1, 0, 1}, {"A ^00", 'i', 1, 1, 2},
            {"A *00", 'i', 1, 1, 2}, {"A +00", 'i', 1, 1, 2}, {"A ~0 ~1", 'n', 2, 0, 2}, {"A -0 -1", 'n', 2, 0, 2},
            {"A -0 ~1", 'n', 2, 2, 3}, {"A -0 +01", 'd', 2, 2, 3}, {"A -0 +10", 'd', 2, 2, 3}, {"A ~0 +01", 'd', 2, 2, 3},
            {"A B -0 +12", 'd', 3, 3, 4}, {"A +00", 't', 1, 1, 3}, {"A 2 *01 +00", 't', 3, 2, 3}, {"A B +01", 't', 2, 2, 3},
            {"A 0 ~0", 'z', 2, 2, 3},
        };
        for (Object[] d : due) {
            Peepholery p = terms((String) d[0]);
            Check.due(50, d[0] + " by " + d[1], d[4], () -> p.law((char) d[1]));
            Check.due(50, d[0] + " by " + d[1], d[3], () -> p.classOf((int) d[2]));
            Check.due(50, d[0] + " by " + d[1] + " is sound", true, p::isSound);
        }
        Peepholery p = terms("A -0 +01");
        p.law('d');
        Check.due(50, "d adds 0", 3, () -> p.leaf('0'));
        Check.due(50, "and joins with it", 2, () -> p.classOf(3));
        Peepholery q = terms("A ^00");
        q.law('i');
        Check.due(50, "i adds 0", 1, () -> q.classOf(q.leaf('0')));
        Peepholery r = terms("A +00");
        r.law('t');
        Check.due(50, "t adds 2 and the product", 3, () -> r.term('*', 0, r.leaf('2')));
        Check.due(50, "and joins with it", 1, () -> r.classOf(3));
        for (char law : new char[] {'a', 'C', ' ', (char) 0}) {
            Check.due(50, "no law", Check.ARGUMENT, () -> r.law(law));
        }
        Check.due(50, "no terms", 0, () -> new Peepholery().law('c'));
    }

    private static void lawOfTurning() {
        Peepholery p = terms("A B +01 *10 &00 -0");
        Check.due(50, "c", 6, () -> p.law('c'));
        Check.due(50, "added", 6, () -> p.term('+', 1, 0));
        Check.due(50, "and joined", 2, () -> p.classOf(6));
        Check.due(50, "added", 7, () -> p.term('*', 0, 1));
        Check.due(50, "and joined", 3, () -> p.classOf(7));
        Check.due(50, "only terms that were there", 6, () -> p.law('c'));
        Check.due(46, "nothing more was added", 8, () -> p.leaf('C'));
    }

    private static void lowestParts() {
        // ~ ~ A, where the class of ~ A has ~ B with a lower number.
        Peepholery p = terms("A B ~1 ~0 ~3");
        p.join(2, 3);
        Check.due(50, "the lowest one is taken", 3, () -> p.law('n'));
        Check.due(50, "so it is B", 1, () -> p.classOf(4));
        // A + - A, where the class of - A has - B with a lower number.
        Peepholery q = terms("A B 0 -1 -0 +04");
        q.join(3, 4);
        Check.due(50, "any opposite will do", 4, () -> q.law('d'));
        Check.due(50, "so it is 0", 2, () -> q.classOf(5));
        Peepholery r = terms("A B 0 +01");
        r.join(1, 2);
        Check.due(50, "0 by its class", 2, () -> r.law('z'));
        Check.due(50, "0 by its class", 0, () -> r.classOf(3));
    }

    private static void lackOfRoom() {
        Peepholery p = terms("A B +00 ^00 +01");
        for (int i = 5; i < 59; i++) {
            p.term('~', i - 1, 0);
        }
        Check.due(50, "no room for 2 and the product", 59, () -> p.law('t'));
        Check.due(50, "room for 0", 59, () -> p.law('i'));
        Check.due(46, "no room", Check.STATE, () -> p.leaf('C'));
        Check.due(46, "is there", 0, () -> p.leaf('A'));
        Check.due(46, "no leaf first", Check.ARGUMENT, () -> p.leaf('D'));
        Check.due(47, "no room", Check.STATE, () -> p.term('*', 0, 0));
        Check.due(47, "is there", 2, () -> p.term('+', 0, 0));
        Check.due(50, "no room for it turned about", 59, () -> p.law('c'));
        Check.due(49, "as it was", 4, () -> p.classOf(4));
        Peepholery r = terms("A +00");
        for (int i = 2; i < 58; i++) {
            r.term('~', i - 1, 0);
        }
        Check.due(50, "just room for 2 and the product", 59, () -> r.law('t'));
        Check.due(50, "both were added", 1, () -> r.classOf(r.term('*', 0, r.leaf('2'))));
        Peepholery q = terms("A 2 +00");
        for (int i = 3; i < 59; i++) {
            q.term('~', i - 1, 0);
        }
        Check.due(50, "room for the product alone", 59, () -> q.law('t'));
        Check.due(49, "the product was added, and joined", 2, () -> q.classOf(q.term('*', 0, 1)));
    }

    private static void costs() {
        Peepholery p = terms("A B +01 +22 ~3 -0");
        Check.due(51, "leaf", 0, () -> p.cost(0));
        Check.due(51, "one", 1, () -> p.cost(2));
        Check.due(51, "equal parts count each time", 3, () -> p.cost(3));
        Check.due(51, "one part", 4, () -> p.cost(4));
        Check.due(52, "best", 4, () -> p.best(4));
        p.join(4, 5);
        Check.due(51, "the least one", 1, () -> p.cost(4));
        Check.due(52, "the least one", 5, () -> p.best(4));
        Check.due(52, "for both", 5, () -> p.best(5));
        p.join(2, 4);
        Check.due(52, "the lowest of several", 2, () -> p.best(5));
        p.join(0, 2);
        Check.due(51, "round about", 0, () -> p.cost(2));
        Check.due(52, "round about", 0, () -> p.best(2));
        Check.due(51, "no term", Check.INDEX, () -> p.cost(6));
        Check.due(52, "no term", Check.INDEX, () -> p.best(6));
        Check.due(51, "no term", Check.INDEX, () -> p.cost(-1));
        Check.due(52, "no term", Check.INDEX, () -> p.best(-1));
    }

    private static void great() {
        Peepholery p = terms("A");
        for (int i = 0; i < 59; i++) {
            p.term('+', i, i);
        }
        Check.due(51, "30 doublings", (1 << 30) - 1, () -> p.cost(30));
        Check.due(51, "31 doublings", Integer.MAX_VALUE, () -> p.cost(31));
        Check.due(52, "59 doublings", 59, () -> p.best(59));
        Check.due(54, "59 doublings", 0, () -> p.value(59, 5, 31, 0, 0));
        Check.due(54, "4 doublings", 16, () -> p.value(4, 5, 31, 0, 0));
        Check.due(57, "sound", true, p::isSound);
    }

    private static void shares() {
        Peepholery p = terms("A B +01 +22 *33");
        Check.due(51, "as a tree", 7, () -> p.cost(4));
        Check.due(53, "shared", 3, () -> p.shared(4));
        Check.due(53, "leaf", 0, () -> p.shared(0));
        Check.due(53, "no term", Check.INDEX, () -> p.shared(5));
        // X = ~ ~ A + ~ ~ A or - A + ~ B: as a tree the second one is cheaper, shared the cost is the same.
        Peepholery q = terms("A ~0 ~1 +22 B -0 ~4 +56");
        q.join(3, 7);
        Check.due(51, "as a tree", 3, () -> q.cost(3));
        Check.due(53, "shared", 3, () -> q.shared(3));
        // One choice for the whole: the class of ~ ~ A and of - B is chosen once.
        Peepholery r = terms("A B ~0 ~2 &01 |01 ^45 +33");
        r.join(6, 3);
        Check.due(51, "two operators twice, and one", 5, () -> r.cost(7));
        Check.due(53, "once", 3, () -> r.shared(7));
        Peepholery s = terms("A ~0 ~1");
        s.join(1, 2);
        Check.due(53, "no rounds", 1, () -> s.shared(2));
        Peepholery t = terms("A B C 0 1 2 3 4 5 6");
        Check.due(53, "ten classes", 0, () -> t.shared(9));
        t.leaf('7');
        Check.due(53, "eleven classes", Check.UNSUPPORTED, () -> t.shared(9));
        Check.due(53, "no term first", Check.INDEX, () -> t.shared(11));
        t.join(0, 1);
        Check.due(53, "ten again", 0, () -> t.shared(9));
    }

    private static void values() {
        Peepholery p = terms("A B C 9 +01 &01 |01 ^01 *01 -0 ~0 +42");
        int[] due = {5, 3, 6, 1, 0, 1, 7, 6, 7, 3, 2, 6};
        for (int i = 0; i < due.length; i++) {
            int term = i;
            Check.due(54, "term " + i, due[i], () -> p.value(term, 3, 5, 3, 6));
        }
        Check.due(54, "9 modulo 8", 1, () -> p.value(3, 3, 6, 3, 6));
        Check.due(54, "2 bits", 3, () -> p.value(10, 2, 0, 3, 2));
        Check.due(54, "5 bits", 31, () -> p.value(4, 5, 30, 1, 2));
        Peepholery q = terms("A ~0 ~1 ~2 B -4 ~3 ~6");
        q.join(3, 5);
        Check.due(54, "parts of higher numbers", 5, () -> q.value(3, 3, 1, 3, 0));
        Check.due(54, "and what is made of them", 2, () -> q.value(6, 3, 1, 3, 0));
        Check.due(54, "and of that", 5, () -> q.value(7, 3, 1, 3, 0));
        p.join(10, 1);
        Check.due(54, "the best tree of its class", 3, () -> p.value(10, 3, 5, 3, 6));
    }

    private static void wrongValues() {
        Peepholery p = terms("A");
        Check.due(54, "no term first", Check.INDEX, () -> p.value(1, 1, 0, 0, 0));
        Check.due(54, "bits", Check.ARGUMENT, () -> p.value(0, 1, 0, 0, 0));
        Check.due(54, "bits", Check.ARGUMENT, () -> p.value(0, 6, 0, 0, 0));
        Check.due(54, "bits", Check.ARGUMENT, () -> p.value(0, 34, 0, 0, 0));
        Check.due(54, "word", Check.ARGUMENT, () -> p.value(0, 2, 4, 0, 0));
        Check.due(54, "word", Check.ARGUMENT, () -> p.value(0, 2, 0, 4, 0));
        Check.due(54, "word", Check.ARGUMENT, () -> p.value(0, 2, 0, 0, -1));
    }
}
