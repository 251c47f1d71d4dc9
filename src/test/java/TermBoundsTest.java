/** The bounds of terms, classes, laws, costs and values, and of the whole bench: promises 46 to 57. */
public final class TermBoundsTest {
    private TermBoundsTest() {
    }

    public static void main(String[] arguments) {
        leaves();
        operators();
        numbersOfTerms();
        sixtyTerms();
        sixtyLeavesAndTerms();
        byClasses();
        chains();
        roomForOne('i');
        roomForOne('d');
        roomForOne('c');
        roomForTwo();
        unknownLaws();
        lawsOnce();
        zeros();
        noLaw();
        costs();
        slowCosts();
        bests();
        tenClasses();
        sharedOnce();
        valueNumbers();
        valueWraps();
        shares();
        means();
        lastCall();
        Check.end("TermBoundsTest");
    }

    private static void leaves() {
        for (int number = 0; number < 300; number++) {
            char sign = (char) number;
            boolean isLeaf = "ABC0123456789".indexOf(sign) >= 0;
            Check.due(46, "sign " + number, isLeaf ? (Object) 0 : Check.ARGUMENT, () -> new Peepholery().leaf(sign));
        }
        Peepholery p = new Peepholery();
        String signs = "0ABC987654321";
        for (int round = 0; round < 2; round++) {
            for (int i = 0; i < signs.length(); i++) {
                char sign = signs.charAt(i);
                Check.due(46, "leaf " + sign + ", round " + round, i, () -> p.leaf(sign));
            }
        }
        Check.due(48, "thirteen classes", 13, () -> p.join(0, 0));
    }

    private static void operators() {
        for (int number = 0; number < 300; number++) {
            char sign = (char) number;
            boolean isOperator = "+&|^*-~".indexOf(sign) >= 0;
            Check.due(47, "sign " + number, isOperator ? (Object) 1 : Check.ARGUMENT, () -> {
                Peepholery p = new Peepholery();
                p.leaf('A');
                return p.term(sign, 0, 0);
            });
        }
        for (char sign : "-~".toCharArray()) {
            Peepholery p = new Peepholery();
            p.leaf('A');
            for (int odd : new int[] {-1, 1, 2, 60, Integer.MIN_VALUE, Integer.MAX_VALUE}) {
                Check.due(47, "the second part of " + sign + " is of no meaning", 1, () -> p.term(sign, 0, odd));
                int first = odd == 1 ? 2 : odd;
                Check.due(47, "the first one is", Check.INDEX, () -> p.term(sign, first, 0));
            }
            Check.due(47, "none was added twice", 2, () -> p.term(sign, 1, 0));
        }
        for (char sign : "+&|^*".toCharArray()) {
            Peepholery p = new Peepholery();
            p.leaf('A');
            for (int odd : new int[] {-1, 1, 60, Integer.MIN_VALUE, Integer.MAX_VALUE}) {
                Check.due(47, "first part " + odd, Check.INDEX, () -> p.term(sign, odd, 0));
                Check.due(47, "second part " + odd, Check.INDEX, () -> p.term(sign, 0, odd));
            }
            Check.due(47, "a term of itself with itself", 1, () -> p.term(sign, 0, 0));
            Check.due(47, "by the new one", 2, () -> p.term(sign, 1, 0));
            Check.due(47, "turned about it is another one", 3, () -> p.term(sign, 0, 1));
        }
    }

    /** Each method that takes a term: the last one there, and just beyond it. */
    private static void numbersOfTerms() {
        Peepholery p = new Peepholery();
        for (int count = 0; count < 3; count++) {
            for (int odd : new int[] {-1, count, 60, Integer.MIN_VALUE, Integer.MAX_VALUE}) {
                Check.due(48, "first term " + odd, Check.INDEX, () -> p.join(odd, 0));
                Check.due(48, "second term " + odd, Check.INDEX, () -> p.join(0, odd));
                Check.due(49, "term " + odd, Check.INDEX, () -> p.classOf(odd));
                Check.due(51, "term " + odd, Check.INDEX, () -> p.cost(odd));
                Check.due(52, "term " + odd, Check.INDEX, () -> p.best(odd));
                Check.due(53, "term " + odd, Check.INDEX, () -> p.shared(odd));
                Check.due(54, "term " + odd, Check.INDEX, () -> p.value(odd, 2, 0, 0, 0));
            }
            int last = count;
            Check.due(46, "term " + count, count, () -> p.leaf("ABC".charAt(last)));
            Check.due(48, "term " + count, count + 1, () -> p.join(last, last));
            Check.due(49, "term " + count, count, () -> p.classOf(last));
            Check.due(51, "term " + count, 0, () -> p.cost(last));
            Check.due(52, "term " + count, count, () -> p.best(last));
            Check.due(53, "term " + count, 0, () -> p.shared(last));
            Check.due(54, "term " + count, count + 1, () -> p.value(last, 2, 1, 2, 3));
        }
    }

    private static void sixtyTerms() {
        Peepholery p = new Peepholery();
        p.leaf('A');
        for (int i = 1; i < 60; i++) {
            int number = i;
            Check.due(47, "term " + i, i, () -> p.term('~', number - 1, 0));
        }
        Check.due(47, "a 61st term", Check.STATE, () -> p.term('~', 59, 0));
        Check.due(47, "a 61st term of two", Check.STATE, () -> p.term('+', 0, 0));
        Check.due(47, "one that is there", 59, () -> p.term('~', 58, 0));
        Check.due(47, "one that is there", 1, () -> p.term('~', 0, -9));
        Check.due(46, "a 61st term", Check.STATE, () -> p.leaf('B'));
        Check.due(46, "one that is there", 0, () -> p.leaf('A'));
        Check.due(49, "the last one", 59, () -> p.classOf(59));
        Check.due(49, "none behind it", Check.INDEX, () -> p.classOf(60));
        Check.due(51, "the deepest tree", 59, () -> p.cost(59));
        Check.due(52, "the deepest tree", 59, () -> p.best(59));
        Check.due(54, "turned over 59 times", 3, () -> p.value(59, 2, 0, 0, 0));
        Check.due(53, "60 classes are too many", Check.UNSUPPORTED, () -> p.shared(59));
        Check.due(48, "all are classes", 60, () -> p.join(59, 59));
        Check.due(48, "every second one is joined with the first or the second one", 2, () -> p.join(0, 2));
        Check.due(47, "by classes it is there now, the lowest one", 2, () -> p.term('~', 59, 0));
        Check.due(49, "the last one", 1, () -> p.classOf(59));
        Check.due(48, "all in one", 1, () -> p.join(58, 59));
        Check.due(49, "the last one", 0, () -> p.classOf(59));
    }

    private static void sixtyLeavesAndTerms() {
        Peepholery p = new Peepholery();
        p.leaf('A');
        for (int i = 1; i < 59; i++) {
            p.term('-', i - 1, 0);
        }
        Check.due(46, "the 60th term", 59, () -> p.leaf('9'));
        Check.due(46, "a 61st term", Check.STATE, () -> p.leaf('8'));
        Check.due(46, "no sign", Check.ARGUMENT, () -> p.leaf('a'));
        Check.due(47, "a 61st term", Check.STATE, () -> p.term('-', 59, 0));
        Check.due(47, "no term", Check.INDEX, () -> p.term('-', 60, 0));
        Check.due(47, "no operator", Check.ARGUMENT, () -> p.term('/', 0, 0));
        Check.due(48, "nothing was added", 60, () -> p.join(0, 0));
    }

    /** One that is there is found by classes, the lowest one. */
    private static void byClasses() {
        Peepholery p = new Peepholery();
        for (char sign : "ABC".toCharArray()) {
            p.leaf(sign);
        }
        p.term('+', 0, 1);
        p.term('+', 0, 2);
        p.term('-', 2, 0);
        Check.due(48, "the sums are joined, too", 4, () -> p.join(2, 1));
        Check.due(47, "the lowest sum", 3, () -> p.term('+', 0, 2));
        Check.due(47, "another operator is another term", 6, () -> p.term('*', 0, 2));
        Check.due(47, "of the other class", 5, () -> p.term('-', 1, 0));
        Check.due(47, "turned about", 7, () -> p.term('+', 1, 0));
        Check.due(47, "turned about", 7, () -> p.term('+', 2, 0));
        Check.due(47, "another one of one part", 8, () -> p.term('~', 1, 0));
        Check.due(46, "a leaf is found in a class of others", 2, () -> p.leaf('C'));
    }

    /** Joining goes on as long as something changes: towers of 28 on either side. */
    private static void chains() {
        Peepholery p = new Peepholery();
        p.leaf('A');
        p.leaf('B');
        for (int i = 2; i < 60; i++) {
            p.term('-', i - 2, 0);
        }
        Check.due(48, "two towers", 60, () -> p.join(1, 1));
        Check.due(48, "the second floor, and all above it", 32, () -> p.join(5, 4));
        Check.due(49, "below it they are two", 3, () -> p.classOf(3));
        Check.due(49, "the top", 58, () -> p.classOf(59));
        Check.due(48, "from the ground on", 30, () -> p.join(0, 1));
        Check.due(49, "from the ground on", 2, () -> p.classOf(3));
        Check.due(48, "the top and the ground", 29, () -> p.join(59, 0));
        // A is its own opposite 29 times over.
        Check.due(52, "the top", 0, () -> p.best(58));
        Check.due(51, "the top", 0, () -> p.cost(58));
    }

    /** A law that needs one term more, with room for it, and without: x ^ x, x + - x, and x + y turned about. */
    private static void roomForOne(char law) {
        for (int count = 58; count <= 60; count++) {
            Peepholery p = new Peepholery();
            p.leaf('A');
            p.leaf('B');
            p.term('-', 0, 0);
            int changed = p.term(law == 'i' ? '^' : '+', 0, law == 'i' ? 0 : law == 'd' ? 2 : 1);
            for (int i = 4; i < count; i++) {
                p.term('~', i - 1, 0);
            }
            String what = "law " + law + " with " + count + " terms";
            // What is added is joined at once, so that there are as many classes as before.
            Check.due(50, what, count, () -> p.law(law));
            Object due = count < 60 ? (Object) changed : Check.STATE;
            Check.due(50, what + ": the needed one", due, () -> p.classOf(law == 'c' ? p.term('+', 1, 0) : p.leaf('0')));
            Object next = count == 58 ? (Object) 59 : Check.STATE;
            Check.due(50, what + ": no more than that", next, () -> p.term('*', 0, 0));
        }
    }

    /** t needs 2 and the product: both, the product alone, or none. */
    private static void roomForTwo() {
        for (int needed = 0; needed <= 2; needed++) {
            for (int count = 57; count <= 60; count++) {
                Peepholery p = new Peepholery();
                p.leaf('A');
                p.term('+', 0, 0);
                if (needed < 2) {
                    p.leaf('2');
                }
                if (needed == 0) {
                    p.term('*', 0, 2);
                }
                for (int i = 4 - needed; i < count; i++) {
                    p.term('~', i - 1, 0);
                }
                boolean isRoom = count + needed <= 60;
                int behind = count + (isRoom ? needed : 0);
                String what = needed + " terms needed, " + count + " there";
                int classes = behind - (isRoom ? 1 : 0);
                Check.due(50, what, classes, () -> p.law('t'));
                Check.due(48, what, classes, () -> p.join(0, 0));
                Check.due(49, what, Check.INDEX, () -> p.classOf(behind));
                Check.due(49, what, true, () -> p.classOf(behind - 1) >= 0);
                if (isRoom) {
                    Check.due(50, what, 1, () -> p.classOf(p.term('*', 0, p.leaf('2'))));
                }
            }
        }
    }

    private static void unknownLaws() {
        for (int number = 0; number < 300; number++) {
            char law = (char) number;
            boolean isLaw = "czoindt".indexOf(law) >= 0;
            Check.due(50, "law " + number, isLaw ? (Object) 0 : Check.ARGUMENT, () -> new Peepholery().law(law));
        }
    }

    /** Once through all terms that were there: what is added is left to the next time. */
    private static void lawsOnce() {
        Peepholery p = new Peepholery();
        p.leaf('A');
        p.leaf('B');
        p.term('+', 0, 1);
        p.term('+', 2, 0);
        Check.due(50, "two sums turned about", 4, () -> p.law('c'));
        Check.due(49, "the first one", 2, () -> p.classOf(4));
        Check.due(49, "the second one", 3, () -> p.classOf(5));
        Check.due(49, "no more were added", Check.INDEX, () -> p.classOf(6));
        Peepholery q = new Peepholery();
        q.leaf('A');
        q.term('+', 0, 0);
        q.term('+', 1, 1);
        Check.due(50, "2, and two products", 4, () -> q.law('t'));
        Check.due(50, "the products are no sums", 4, () -> q.law('t'));
        Check.due(49, "no more were added", Check.INDEX, () -> q.classOf(6));
        // By rising numbers: the second term is joined first, so that the third one is x + 0, too.
        Peepholery r = new Peepholery();
        r.leaf('0');
        r.leaf('A');
        r.term('*', 1, 0);
        r.term('+', 1, 2);
        Check.due(50, "what a law joins counts at once", 2, () -> r.law('z'));
        Check.due(49, "A + A * 0 is A", 1, () -> r.classOf(3));
        Peepholery s = new Peepholery();
        s.leaf('0');
        s.leaf('A');
        s.leaf('B');
        s.term('+', 1, 2);
        s.term('*', 2, 0);
        s.join(2, 4);
        Check.due(50, "classes as they are then", 3, () -> s.law('z'));
        Check.due(49, "that B is 0 was found behind A + B", 3, () -> s.classOf(3));
        Check.due(50, "the next time it counts", 2, () -> s.law('z'));
        Check.due(49, "A + B is A", 1, () -> s.classOf(3));
    }

    /** 0 and 1 on the right side alone, and by their classes. */
    private static void zeros() {
        for (char sign : "+|^*&".toCharArray()) {
            boolean isZero = sign == '*' || sign == '&';
            Peepholery p = new Peepholery();
            p.leaf('A');
            p.leaf('0');
            p.leaf('B');
            p.term(sign, 0, 1);
            p.term(sign, 1, 0);
            p.term(sign, 0, 2);
            Check.due(50, "z by " + sign, 5, () -> p.law('z'));
            Check.due(49, "z by " + sign, isZero ? 1 : 0, () -> p.classOf(3));
            Check.due(49, "not on the left side", 4, () -> p.classOf(4));
            Check.due(49, "not by B", 5, () -> p.classOf(5));
            p.join(2, 1);
            Check.due(50, "B is 0: z by " + sign, 3, () -> p.law('z'));
            Check.due(49, "by its class", isZero ? 1 : 0, () -> p.classOf(5));
        }
        Peepholery p = new Peepholery();
        p.leaf('1');
        p.leaf('A');
        p.term('*', 1, 0);
        p.term('*', 0, 1);
        p.term('*', 0, 0);
        Check.due(50, "o", 3, () -> p.law('o'));
        Check.due(49, "A * 1", 1, () -> p.classOf(2));
        Check.due(49, "1 * A is none", 3, () -> p.classOf(3));
        Check.due(49, "1 * 1", 0, () -> p.classOf(4));
    }

    /** What a law does not say: 0, 1 and 2 are there, so that each join would be seen. */
    private static void noLaw() {
        Object[][] due = {
            // an operator, its parts of A 0 1 2 B -A -B ~A ~B, and the laws that say something of it
            {'+', 0, 4, "c"}, {'+', 0, 5, "cd"}, {'+', 0, 6, "c"}, {'+', 5, 0, "c"}, {'+', 0, 7, "c"}, {'+', 4, 6, "cd"}, {'+', 4, 5, "c"},
            {'+', 0, 0, "t"}, {'+', 5, 5, "t"}, {'+', 0, 1, "cz"}, {'+', 1, 0, "c"}, {'+', 0, 2, "c"}, {'+', 1, 1, "zt"},
            {'*', 0, 0, ""}, {'*', 0, 1, "cz"}, {'*', 0, 2, "co"}, {'*', 2, 0, "c"}, {'*', 2, 2, "o"}, {'*', 0, 5, "c"},
            {'&', 0, 0, "i"}, {'&', 0, 4, "c"}, {'&', 0, 1, "cz"}, {'&', 0, 2, "c"}, {'&', 0, 5, "c"}, {'&', 1, 1, "zi"},
            {'|', 0, 0, "i"}, {'|', 0, 4, "c"}, {'|', 0, 1, "cz"}, {'|', 0, 2, "c"}, {'|', 0, 7, "c"}, {'|', 1, 1, "zi"},
            {'^', 0, 0, "i"}, {'^', 0, 4, "c"}, {'^', 0, 1, "cz"}, {'^', 0, 2, "c"}, {'^', 0, 7, "c"}, {'^', 1, 1, "zi"},
            {'-', 5, 0, "n"}, {'-', 7, 0, ""}, {'~', 7, 0, "n"}, {'~', 5, 0, ""}, {'-', 1, 0, ""}, {'~', 1, 0, ""},
        };
        for (Object[] d : due) {
            for (char law : "czoindt".toCharArray()) {
                Peepholery p = new Peepholery();
                for (char sign : "A012B".toCharArray()) {
                    p.leaf(sign);
                }
                for (int i = 5; i < 9; i++) {
                    p.term(i < 7 ? '-' : '~', i % 2 == 1 ? 0 : 4, 0);
                }
                p.term((char) d[0], (int) d[1], (int) d[2]);
                boolean isSaid = ((String) d[3]).indexOf(law) >= 0;
                // c and t add the term that is joined then.
                int classes = isSaid && law != 'c' && law != 't' ? 9 : 10;
                String what = "" + d[0] + d[1] + d[2] + " by " + law;
                Check.due(50, what, classes, () -> p.law(law));
                Object next = isSaid && (law == 'c' || law == 't') ? (Object) 9 : Check.INDEX;
                Check.due(50, what + " adds", next, () -> p.classOf(10));
            }
        }
    }

    /**
     * A tower of ~ on A, each floor of which is the opposite of the floor above it, too, and the top is B: what is
     * cheaper from above is found floor by floor.
     */
    private static void slowCosts() {
        Peepholery p = new Peepholery();
        p.leaf('A');
        for (int i = 1; i <= 29; i++) {
            p.term('~', i - 1, 0);
        }
        for (int i = 1; i <= 29; i++) {
            p.term('-', i, 0);
        }
        p.leaf('B');
        p.join(59, 29);
        for (int i = 0; i < 29; i++) {
            p.join(i, 30 + i);
        }
        for (int i = 0; i <= 29; i++) {
            int number = i;
            Check.due(51, "floor " + i + " of 29", Math.min(i, 29 - i), () -> p.cost(number));
            int best = i == 29 ? 59 : i <= 14 ? i : 30 + i;
            Check.due(52, "floor " + i + " of 29", best, () -> p.best(number));
            // ~ twice and - twice are nothing.
            int fromA = i % 2 == 0 ? 5 : 31 - 5;
            int fromB = (29 - i) % 2 == 0 ? 9 : 32 - 9;
            Check.due(54, "floor " + i + " of 29", i <= 14 ? fromA : fromB, () -> p.value(number, 5, 5, 9, 0));
        }
        Check.due(48, "30 floors", 30, () -> p.join(0, 0));
        Check.due(57, "sound", true, p::isSound);
    }

    private static void costs() {
        Peepholery p = new Peepholery();
        p.leaf('A');
        for (int i = 1; i < 60; i++) {
            p.term('+', i - 1, i - 1);
        }
        for (int i = 0; i < 31; i++) {
            int number = i;
            Check.due(51, i + " doublings", (1 << number) - 1, () -> p.cost(number));
        }
        Check.due(51, "31 doublings are as many as an int can tell", Integer.MAX_VALUE, () -> p.cost(31));
        Check.due(51, "32 doublings are more", Integer.MAX_VALUE, () -> p.cost(32));
        Check.due(51, "59 doublings are more", Integer.MAX_VALUE, () -> p.cost(59));
        Check.due(54, "31 doublings on 5 bits", 0, () -> p.value(31, 5, 1, 0, 0));
        Check.due(54, "4 doublings on 5 bits", 16, () -> p.value(4, 5, 1, 0, 0));
        Check.due(54, "5 doublings on 5 bits", 0, () -> p.value(5, 5, 1, 0, 0));
        p.join(31, 0);
        Check.due(51, "joined with a leaf", 0, () -> p.cost(31));
        Check.due(51, "the others are as they were", (1 << 30) - 1, () -> p.cost(30));
    }

    /** The lowest of those that cost least, asked first of all. */
    private static void bests() {
        for (int asked = 0; asked < 4; asked++) {
            Peepholery p = new Peepholery();
            p.leaf('A');
            p.leaf('B');
            p.term('~', 0, 0);
            p.term('~', 2, 0);
            p.term('&', 0, 1);
            p.term('|', 0, 1);
            p.join(3, 5);
            p.join(3, 4);
            int number = asked == 0 ? 3 : asked == 1 ? 4 : 5;
            if (asked < 3) {
                Check.due(52, "the lowest one that has the cost", 4, () -> p.best(number));
            } else {
                Check.due(54, "the value of the lowest one that has the cost", 0, () -> p.value(3, 2, 1, 2, 0));
            }
        }
        Peepholery p = new Peepholery();
        p.leaf('A');
        p.term('~', 0, 0);
        p.leaf('B');
        p.leaf('C');
        p.join(1, 3);
        Check.due(52, "a leaf", 3, () -> p.best(1));
        p.join(1, 2);
        Check.due(52, "the lower one of two leaves", 2, () -> p.best(3));
        p.join(1, 0);
        Check.due(52, "the first of all", 0, () -> p.best(3));
    }

    private static void tenClasses() {
        Peepholery p = new Peepholery();
        p.leaf('A');
        for (int i = 1; i < 10; i++) {
            p.term(i % 2 == 0 ? '~' : '-', i - 1, 0);
        }
        for (int i = 0; i < 10; i++) {
            int number = i;
            Check.due(53, "ten classes", number, () -> p.shared(number));
        }
        p.term('+', 9, 9);
        Check.due(53, "eleven classes", Check.UNSUPPORTED, () -> p.shared(10));
        Check.due(53, "eleven classes, of a leaf", Check.UNSUPPORTED, () -> p.shared(0));
        p.join(9, 1);
        Check.due(53, "less", true, () -> p.shared(10) <= 2);
        Peepholery q = new Peepholery();
        q.leaf('A');
        for (int i = 1; i < 60; i++) {
            q.term('~', i - 1, 0);
        }
        q.join(0, 10);
        Check.due(48, "60 terms in ten classes", 10, () -> q.join(0, 0));
        Check.due(53, "60 terms in ten classes", 9, () -> q.shared(59));
        Check.due(53, "60 terms in ten classes", 0, () -> q.shared(50));
    }

    /** Equal parts count once, and one choice counts for all: no lesser sum of choices is taken twice. */
    private static void sharedOnce() {
        Peepholery p = new Peepholery();
        p.leaf('A');
        p.term('+', 0, 0);
        for (int i = 2; i < 10; i++) {
            p.term('*', i - 1, i - 1);
        }
        Check.due(53, "nine operators for 511", 9, () -> p.shared(9));
        Check.due(51, "as a tree", 511, () -> p.cost(9));
        // The class of - - A has - - B, too, of which more is needed elsewhere.
        Peepholery q = new Peepholery();
        q.leaf('A');
        q.leaf('B');
        q.term('-', 0, 0);
        q.term('-', 2, 0);
        q.term('~', 1, 0);
        q.term('~', 4, 0);
        q.join(3, 5);
        q.term('&', 3, 4);
        Check.due(53, "~ B is shared", 3, () -> q.shared(6));
        Check.due(51, "as a tree", 4, () -> q.cost(6));
        q.term('|', 6, 2);
        Check.due(53, "with - A, too", 5, () -> q.shared(7));
        Check.due(51, "as a tree", 6, () -> q.cost(7));
        // A round is no tree: ~ A and ~ ~ A in one class.
        Peepholery r = new Peepholery();
        r.leaf('A');
        r.term('~', 0, 0);
        r.term('~', 1, 0);
        r.join(1, 2);
        Check.due(53, "without rounds", 1, () -> r.shared(2));
        Check.due(51, "without rounds", 1, () -> r.cost(2));
        r.join(0, 1);
        Check.due(53, "all in one", 0, () -> r.shared(2));
    }

    private static void valueNumbers() {
        Peepholery p = new Peepholery();
        p.leaf('A');
        p.leaf('B');
        p.leaf('C');
        for (int bits = 2; bits <= 5; bits++) {
            int b = bits;
            int most = (int) Math.pow(2, bits) - 1;
            Check.due(54, "greatest A", most, () -> p.value(0, b, most, 0, 0));
            Check.due(54, "greatest B", most, () -> p.value(1, b, 0, most, 0));
            Check.due(54, "greatest C", most, () -> p.value(2, b, 0, 0, most));
            Check.due(54, "all are the greatest", most, () -> p.value(2, b, most, most, most));
            Check.due(54, "all are 0", 0, () -> p.value(2, b, 0, 0, 0));
            for (int odd : new int[] {-1, most + 1, Integer.MIN_VALUE, Integer.MAX_VALUE}) {
                Check.due(54, "A is " + odd, Check.ARGUMENT, () -> p.value(0, b, odd, 0, 0));
                Check.due(54, "B is " + odd, Check.ARGUMENT, () -> p.value(0, b, 0, odd, 0));
                Check.due(54, "C is " + odd, Check.ARGUMENT, () -> p.value(0, b, 0, 0, odd));
            }
        }
        for (int odd : new int[] {1, 6, 0, -1, 32, 34, Integer.MIN_VALUE, Integer.MAX_VALUE}) {
            Check.due(54, odd + " bits", Check.ARGUMENT, () -> p.value(0, odd, 0, 0, 0));
        }
    }

    private static void valueWraps() {
        for (int bits = 2; bits <= 5; bits++) {
            int b = bits;
            int most = (int) Math.pow(2, bits) - 1;
            Peepholery p = new Peepholery();
            p.leaf('A');
            p.leaf('B');
            char[] signs = {'+', '&', '|', '^', '*', '-', '~'};
            int[][] words = {{most, 1}, {most, most}, {0, 0}, {0, most}, {1, most / 2}};
            for (int i = 0; i < signs.length; i++) {
                p.term(signs[i], 0, 1);
            }
            for (int[] w : words) {
                int modulus = most + 1;
                int[] due = {(w[0] + w[1]) % modulus, w[0] & w[1], w[0] | w[1], w[0] ^ w[1], w[0] * w[1] % modulus,
                    (modulus - w[0]) % modulus, most - w[0]};
                for (int i = 0; i < signs.length; i++) {
                    int number = i + 2;
                    Check.due(54, signs[i] + " of " + w[0] + " " + w[1] + " on " + bits + " bits", due[i],
                            () -> p.value(number, b, w[0], w[1], 0));
                }
            }
            for (int digit = 0; digit <= 9; digit++) {
                int number = p.leaf((char) ('0' + digit));
                Check.due(54, digit + " on " + bits + " bits", digit % (most + 1), () -> p.value(number, b, 3, 2, 1));
            }
        }
    }

    private static void shares() {
        Peepholery p = Check.bench(2, 0);
        p.machine(2, 0);
        Check.due(55, "no rules", Check.ARITHMETIC, p::validShare);
        int code = Check.code(p, 0, "m0r0");
        int none = Check.code(p, 0, "");
        int other = Check.code(p, 1, "m0r0");
        int empty = Check.code(p, 1, "");
        p.learn(code, none, 1);
        Check.due(55, "the first one", 1f, p::validShare);
        p.learn(other, empty, 1);
        p.quirk(1, 0, true);
        Check.due(55, "the first one of two", 0.5f, p::validShare);
        p.quirk(0, 0, true);
        Check.due(55, "none of two", 0f, p::validShare);
        p.prove(1);
        Check.due(55, "the last one of two", 0.5f, p::validShare);
        for (int i = 2; i < 12; i++) {
            p.learn(code, none, 1);
        }
        Check.due(55, "eleven of twelve", 11f / 12f, p::validShare);
        p.prove(0);
        Check.due(55, "twelve of twelve", 1f, p::validShare);
    }

    private static void means() {
        Peepholery p = Check.bench(2, 0);
        Check.due(56, "no programs", Check.ARITHMETIC, p::meanSize);
        p.tell(0, 'm', 9, 1, 0, 1);
        int code = Check.code(p, 0, Check.times("m0r0", 12));
        Check.due(56, "the first one", 108.0, p::meanSize);
        p.program(0);
        Check.due(56, "the first one of two", 54.0, p::meanSize);
        p.program(0);
        p.add(2, 'a', 0, true, 1);
        Check.due(56, "three", 109.0 / 3.0, p::meanSize);
        for (int i = 3; i < 24; i++) {
            p.program(0);
        }
        Check.due(56, "24", 109.0 / 24.0, p::meanSize);
        p.loop(code, 0, 1, 0);
        Check.due(56, "a loop counts once", 109.0 / 24.0, p::meanSize);
        Check.due(57, "sound", true, p::isSound);
    }

    /** An object answers 512 calls. */
    private static void lastCall() {
        Peepholery p = Check.bench(2, 0);
        p.program(0);
        for (int call = 3; call < 511; call += 2) {
            p.add(0, 'a', 0, true, 1);
            p.drop(0);
        }
        Check.due(7, "the 511th call", 1, () -> p.add(0, 'a', 0, true, 1));
        Check.due(57, "the 512th call", true, p::isSound);
    }
}
