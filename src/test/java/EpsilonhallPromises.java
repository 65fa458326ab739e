import java.util.NoSuchElementException;

/** For each promise of the document: ordinary calls, the edges that it names, and wrong calls. */
public final class EpsilonhallPromises {
    private static final Class<?> INDEX = IndexOutOfBoundsException.class;
    private static final Class<?> ARGUMENT = IllegalArgumentException.class;
    private static final Class<?> STATE = IllegalStateException.class;
    private static final Class<?> UNSUPPORTED = UnsupportedOperationException.class;
    private static final Class<?> NONE = NoSuchElementException.class;
    private static final int LEAST = Integer.MIN_VALUE;
    private static final int GREATEST = Integer.MAX_VALUE;

    private static int wrong = 0;

    private interface Call {
        Object answer();
    }

    public static void main(String[] args) {
        newObject();
        numbers();
        termsOfOrdinals();
        sums();
        products();
        naturalSums();
        naturalProducts();
        takenOff();
        rows();
        comparing();
        asking();
        exponents();
        writing();
        slowFunction();
        hardyFunction();
        fastFunction();
        steppingDown();
        buffers();
        beginnings();
        wormMoves();
        wormOrdinals();
        hydraMoves();
        hydraOrdinals();
        basesMoves();
        gamesTogether();
        embeddings();
        counters();
        addingSteps();
        orders();
        rounds();
        values();
        figures();
        System.out.println(wrong == 0 ? "all promises hold" : wrong + " answers are not as due");
        if (wrong != 0) {
            System.exit(1);
        }
    }

    // ---- helpers

    private static void due(int promise, Object want, Call call) {
        Object got;
        try {
            got = call.answer();
        } catch (RuntimeException e) {
            got = "throws " + e;
        }
        if (!want.equals(got)) {
            wrong++;
            System.out.println("promise " + promise + ", line " + line() + ": answered " + got + ", due is " + want);
        }
    }

    private static void dueThrow(int promise, Class<?> want, Call call) {
        Object got;
        try {
            got = call.answer();
        } catch (RuntimeException e) {
            got = e.getClass();
        }
        if (!want.equals(got)) {
            wrong++;
            System.out.println("promise " + promise + ", line " + line() + ": answered " + got + ", due is " + want);
        }
    }

    private static int line() {
        StackTraceElement[] trace = new Throwable().getStackTrace();
        return trace[2].getLineNumber();
    }

    /** Builds an ordinal from its text, and returns its number. */
    private static int make(Epsilonhall x, String text) {
        int made = -1;
        for (String term : split(text)) {
            int next = makeTerm(x, term);
            made = made < 0 ? next : x.sum(made, next);
        }
        return made;
    }

    private static java.util.List<String> split(String text) {
        java.util.List<String> parts = new java.util.ArrayList<>();
        int depth = 0;
        int start = 0;
        for (int k = 0; k < text.length(); k++) {
            char sign = text.charAt(k);
            depth += sign == '(' ? 1 : sign == ')' ? -1 : 0;
            if (sign == '+' && depth == 0) {
                parts.add(text.substring(start, k));
                start = k + 1;
            }
        }
        parts.add(text.substring(start));
        return parts;
    }

    private static int makeTerm(Epsilonhall x, String term) {
        if (term.charAt(0) != 'w') {
            return x.number(Integer.parseInt(term));
        }
        int close = term.startsWith("w^(") ? term.lastIndexOf(')') : 0;
        String exponent = close > 0 ? term.substring(3, close) : "1";
        int star = term.indexOf('*', close);
        return x.term(make(x, exponent), star < 0 ? 1 : Integer.parseInt(term.substring(star + 1)));
    }

    private static String text(Epsilonhall x, int ordinal) {
        StringBuilder text = new StringBuilder();
        int length = x.length(ordinal);
        for (int k = 0; k < length; k++) {
            text.append(x.signAt(ordinal, k));
        }
        return text.toString();
    }

    private interface Two {
        int make(Epsilonhall x, int one, int other);
    }

    /** Tells what a call makes of two ordinals, each in a house of their own. */
    private static String made(Two call, String one, String other) {
        Epsilonhall x = new Epsilonhall();
        int first = make(x, one);
        int second = make(x, other);
        int before = x.ordinals();
        int made = call.make(x, first, second);
        if (made != before || x.ordinals() != before + 1) {
            return "the number " + made + " among " + x.ordinals();
        }
        if (!text(x, first).equals(one) || !text(x, second).equals(other)) {
            return "what was there is other than before";
        }
        return text(x, made);
    }

    /** Fills the house with ordinals. */
    private static void fill(Epsilonhall x) {
        while (x.ordinals() < 60) {
            x.number(1);
        }
    }

    private static void refused(int promise, Class<?> want, Epsilonhall x, Call call) {
        int before = x.ordinals();
        dueThrow(promise, want, call);
        due(promise, before, () -> x.ordinals());
    }

    /** The exceptions of a call on two ordinals that come ahead of what it makes. */
    private static void wrongPairs(int promise, Two call) {
        Epsilonhall x = new Epsilonhall();
        x.number(0);
        x.number(3);
        for (int odd : new int[] {-1, 2, LEAST, GREATEST}) {
            refused(promise, INDEX, x, () -> call.make(x, odd, 0));
            refused(promise, INDEX, x, () -> call.make(x, 0, odd));
        }
        fill(x);
        refused(promise, STATE, x, () -> call.make(x, 0, 1));
        refused(promise, INDEX, x, () -> call.make(x, 60, 1));
        refused(promise, INDEX, x, () -> call.make(x, 1, 60));
    }

    /** Builds omega to the powers from 1 to 75, of the size 150, and returns its number. */
    private static int greatest(Epsilonhall x) {
        int sum = x.number(1);
        int all = -1;
        int shift = 1;
        // 75 is 1 + 2 + 8 + 64: the sums of 1, 2, 4, .. powers are put behind those that are there.
        int have = 0;
        for (int bit = 1; bit <= 64; bit *= 2) {
            if ((75 & bit) != 0) {
                int placed = x.product(x.term(x.number(have + 1), 1), sum);
                all = all < 0 ? placed : x.sum(placed, all);
                have += bit;
            }
            if (bit < 64) {
                sum = x.sum(x.product(x.term(x.number(shift), 1), sum), sum);
                shift *= 2;
            }
        }
        return all;
    }

    private static int tower(Epsilonhall x, int degree) {
        int made = x.number(1);
        for (int k = 1; k < degree; k++) {
            made = x.term(made, 1);
        }
        return made;
    }

    private static int put(Epsilonhall x, int... numbers) {
        int has = 0;
        for (int number : numbers) {
            has = x.put(number);
        }
        return has;
    }

    private static int worm(Epsilonhall x, int... numbers) {
        put(x, numbers);
        return x.worm();
    }

    private static int hydra(Epsilonhall x, int... parents) {
        put(x, parents);
        return x.hydra();
    }

    private static String numbers(Epsilonhall x, int game) {
        StringBuilder text = new StringBuilder();
        for (int k = 0; k < 400; k++) {
            try {
                text.append(k > 0 ? " " : "").append(x.at(game, k));
            } catch (NoSuchElementException e) {
                text.append("x");
            } catch (IndexOutOfBoundsException e) {
                break;
            }
        }
        return text.toString().trim();
    }

    private static String weight(Epsilonhall x, int game) {
        return text(x, x.ordinalOf(game));
    }

    // ---- promise 1

    private static void newObject() {
        Epsilonhall x = new Epsilonhall();
        due(1, 0, () -> x.ordinals());
        due(1, 0, () -> x.rises());
        due(1, true, () -> x.isSound());
        for (int k = 0; k < 4; k++) {
            int counter = k;
            due(1, 0, () -> x.counter(counter));
        }
        dueThrow(1, INDEX, () -> x.size(0));
        dueThrow(1, INDEX, () -> x.kindOf(0));
        dueThrow(1, INDEX, () -> x.holds(0));
        dueThrow(1, ARGUMENT, () -> x.worm());
        dueThrow(1, NONE, () -> x.overShare());
        dueThrow(1, NONE, () -> x.meanSize());
        due(1, 0, () -> x.run(1000));
        due(1, 1, () -> x.put(0));
        due(1, 123, () -> x.setOrder(123));
        due(1, 0, () -> x.value());
        due(1, "0", () -> text(x, 0));
        Epsilonhall other = new Epsilonhall();
        due(1, 0, () -> other.ordinals());
    }

    // ---- promise 2

    private static void numbers() {
        Epsilonhall x = new Epsilonhall();
        due(2, 0, () -> x.number(0));
        due(2, 1, () -> x.number(999999));
        due(2, 2, () -> x.number(7));
        due(2, "0", () -> text(x, 0));
        due(2, "999999", () -> text(x, 1));
        due(2, "7", () -> text(x, 2));
        due(2, 0, () -> x.terms(0));
        due(2, 1, () -> x.terms(1));
        for (int odd : new int[] {-1, 1000000, LEAST, GREATEST}) {
            refused(2, ARGUMENT, x, () -> x.number(odd));
        }
        for (int k = 3; k < 60; k++) {
            int next = k;
            due(2, next, () -> x.number(next));
        }
        refused(2, STATE, x, () -> x.number(0));
        refused(2, ARGUMENT, x, () -> x.number(-1));
    }

    // ---- promise 3

    private static void termsOfOrdinals() {
        due(3, "5", () -> made((x, a, b) -> x.term(a, 5), "0", "0"));
        due(3, "w", () -> made((x, a, b) -> x.term(a, 1), "1", "0"));
        due(3, "w*999999", () -> made((x, a, b) -> x.term(a, 999999), "1", "0"));
        due(3, "w^(w+2)*3", () -> made((x, a, b) -> x.term(a, 3), "w+2", "0"));
        Epsilonhall x = new Epsilonhall();
        int six = tower(x, 6);
        due(3, 6, () -> x.degree(six));
        refused(3, UNSUPPORTED, x, () -> x.term(six, 1));
        for (int odd : new int[] {-1, 6, LEAST, GREATEST}) {
            refused(3, INDEX, x, () -> x.term(odd, 1));
            refused(3, INDEX, x, () -> x.term(odd, 0));
        }
        for (int odd : new int[] {0, -1, 1000000, LEAST, GREATEST}) {
            refused(3, ARGUMENT, x, () -> x.term(0, odd));
            refused(3, ARGUMENT, x, () -> x.term(six, odd));
        }
        fill(x);
        refused(3, UNSUPPORTED, x, () -> x.term(six, 1));
        refused(3, STATE, x, () -> x.term(0, 1));
        refused(3, ARGUMENT, x, () -> x.term(0, 0));
        Epsilonhall y = new Epsilonhall();
        int great = greatest(y);
        due(3, 150, () -> y.size(great));
        refused(3, UNSUPPORTED, y, () -> y.term(great, 1));
        int less = y.takeOff(y.term(y.number(75), 1), great);
        due(3, 148, () -> y.size(less));
        due(3, 149, () -> y.size(y.term(less, 1)));
        due(3, 150, () -> y.size(y.term(y.sum(less, y.number(1)), 1)));
    }

    // ---- promise 4

    private static void sums() {
        Two sum = (x, a, b) -> x.sum(a, b);
        due(4, "w", () -> made(sum, "1", "w"));
        due(4, "w+1", () -> made(sum, "w", "1"));
        due(4, "w^(2)*2+w*5+7", () -> made(sum, "w^(2)*2+w*3+9", "w*2+7"));
        due(4, "w^(2)*2+w*2+7", () -> made(sum, "w^(2)*2", "w*2+7"));
        due(4, "w^(w)+3", () -> made(sum, "w^(2)+4", "w^(w)+3"));
        due(4, "w+1", () -> made(sum, "w+1", "0"));
        due(4, "w+1", () -> made(sum, "0", "w+1"));
        due(4, "0", () -> made(sum, "0", "0"));
        due(4, "999999", () -> made(sum, "999998", "1"));
        due(4, "w^(w+1)*3+w^(w)+2", () -> made(sum, "w^(w+1)*2+w^(2)", "w^(w+1)+w^(w)+2"));
        Epsilonhall x = new Epsilonhall();
        int w = make(x, "w*2+3");
        due(4, "w*4+3", () -> text(x, x.sum(w, w)));
        Epsilonhall y = new Epsilonhall();
        int most = y.number(999999);
        int one = y.number(1);
        refused(4, UNSUPPORTED, y, () -> y.sum(most, one));
        int great = greatest(y);
        refused(4, UNSUPPORTED, y, () -> y.sum(great, one));
        due(4, 150, () -> y.size(y.sum(one, great)));
        fill(y);
        refused(4, UNSUPPORTED, y, () -> y.sum(great, one));
        refused(4, STATE, y, () -> y.sum(one, great));
        wrongPairs(4, sum);
    }

    // ---- promise 5

    private static void products() {
        Two product = (x, a, b) -> x.product(a, b);
        due(5, "0", () -> made(product, "0", "w"));
        due(5, "0", () -> made(product, "w", "0"));
        due(5, "w", () -> made(product, "2", "w"));
        due(5, "w*2", () -> made(product, "w", "2"));
        due(5, "6", () -> made(product, "2", "3"));
        due(5, "w^(2)+w*3+1", () -> made(product, "w+1", "w+3"));
        due(5, "w^(w+1)*4+w^(w)*6+w^(2)+5", () -> made(product, "w^(w)*2+w^(2)+5", "w*4+3"));
        due(5, "w^(w^(2))*2", () -> made(product, "w^(w)+1", "w^(w^(2))*2"));
        due(5, "w^(w+2)*5", () -> made(product, "w^(w)*3", "w^(2)*5"));
        Epsilonhall x = new Epsilonhall();
        int thousand = x.number(1000);
        int less = x.number(999);
        refused(5, UNSUPPORTED, x, () -> x.product(thousand, thousand));
        due(5, "999000", () -> text(x, x.product(thousand, less)));
        int most = x.number(999999);
        refused(5, UNSUPPORTED, x, () -> x.product(most, most));
        int great = greatest(x);
        int two = x.number(2);
        due(5, 150, () -> x.size(x.product(great, two)));
        int w1 = make(x, "w+1");
        refused(5, UNSUPPORTED, x, () -> x.product(great, w1));
        int w = make(x, "w");
        due(5, "w^(76)", () -> text(x, x.product(great, w)));
        fill(x);
        refused(5, UNSUPPORTED, x, () -> x.product(most, most));
        refused(5, STATE, x, () -> x.product(great, w));
        wrongPairs(5, product);
    }

    // ---- promise 6

    private static void naturalSums() {
        Two sum = (x, a, b) -> x.naturalSum(a, b);
        due(6, "w+1", () -> made(sum, "1", "w"));
        due(6, "w^(2)*2+w*5+16", () -> made(sum, "w^(2)*2+w*3+9", "w*2+7"));
        due(6, "w^(w)+w^(2)+7", () -> made(sum, "w^(2)+4", "w^(w)+3"));
        due(6, "w+1", () -> made(sum, "w+1", "0"));
        due(6, "w+1", () -> made(sum, "0", "w+1"));
        due(6, "0", () -> made(sum, "0", "0"));
        Epsilonhall x = new Epsilonhall();
        int w = make(x, "w*2+3");
        due(6, "w*4+6", () -> text(x, x.naturalSum(w, w)));
        int most = make(x, "w+999999");
        int one = x.number(1);
        refused(6, UNSUPPORTED, x, () -> x.naturalSum(most, one));
        int great = greatest(x);
        refused(6, UNSUPPORTED, x, () -> x.naturalSum(one, great));
        due(6, 150, () -> x.size(x.naturalSum(great, great)));
        fill(x);
        refused(6, UNSUPPORTED, x, () -> x.naturalSum(one, great));
        refused(6, STATE, x, () -> x.naturalSum(great, great));
        wrongPairs(6, sum);
    }

    // ---- promise 7

    private static void naturalProducts() {
        Two product = (x, a, b) -> x.naturalProduct(a, b);
        due(7, "0", () -> made(product, "0", "w"));
        due(7, "0", () -> made(product, "w", "0"));
        due(7, "w*2", () -> made(product, "2", "w"));
        due(7, "w^(2)+w*4+3", () -> made(product, "w+1", "w+3"));
        due(7, "w^(w+2)*6+w^(w)*10", () -> made(product, "w^(w)*2", "w^(2)*3+5"));
        due(7, "w^(w^(2)+w)*2", () -> made(product, "w^(w)", "w^(w^(2))*2"));
        due(7, "w^(w^(2)+w)*2+w^(w^(2))*2", () -> made(product, "w^(w)+1", "w^(w^(2))*2"));
        due(7, "w^(3)+w^(2)*2+w*2+1", () -> made(product, "w+1", "w^(2)+w+1"));
        Epsilonhall x = new Epsilonhall();
        int thousand = x.number(1000);
        int less = x.number(999);
        refused(7, UNSUPPORTED, x, () -> x.naturalProduct(thousand, thousand));
        due(7, "999000", () -> text(x, x.naturalProduct(thousand, less)));
        int great = greatest(x);
        int w = make(x, "w");
        int w1 = make(x, "w+1");
        due(7, 150, () -> x.size(x.naturalProduct(great, w)));
        refused(7, UNSUPPORTED, x, () -> x.naturalProduct(great, w1));
        refused(7, UNSUPPORTED, x, () -> x.naturalProduct(great, great));
        fill(x);
        refused(7, UNSUPPORTED, x, () -> x.naturalProduct(great, great));
        refused(7, STATE, x, () -> x.naturalProduct(great, w));
        wrongPairs(7, product);
    }

    // ---- promise 8

    private static void takenOff() {
        Two off = (x, a, b) -> x.takeOff(a, b);
        due(8, "4", () -> made(off, "3", "7"));
        due(8, "w", () -> made(off, "3", "w"));
        due(8, "7", () -> made(off, "w", "w+7"));
        due(8, "w*2+7", () -> made(off, "w*3+9", "w*5+7"));
        due(8, "5", () -> made(off, "w^(2)+w*3+4", "w^(2)+w*3+9"));
        due(8, "w^(w)+1", () -> made(off, "w^(2)*3", "w^(w)+1"));
        due(8, "w+1", () -> made(off, "w^(2)", "w^(2)+w+1"));
        due(8, "w+1", () -> made(off, "0", "w+1"));
        due(8, "0", () -> made(off, "w+1", "w+1"));
        due(8, "0", () -> made(off, "0", "0"));
        Epsilonhall x = new Epsilonhall();
        int w = make(x, "w");
        int three = x.number(3);
        int two = x.number(2);
        refused(8, UNSUPPORTED, x, () -> x.takeOff(w, three));
        refused(8, UNSUPPORTED, x, () -> x.takeOff(three, two));
        fill(x);
        refused(8, UNSUPPORTED, x, () -> x.takeOff(w, three));
        refused(8, STATE, x, () -> x.takeOff(three, w));
        wrongPairs(8, off);
    }

    // ---- promise 9

    private static String row(String text, int n) {
        return made((x, a, b) -> x.row(a, n), text, "0");
    }

    private static void rows() {
        due(9, "0", () -> row("0", 5));
        due(9, "6", () -> row("7", 5));
        due(9, "0", () -> row("1", 0));
        due(9, "w+1", () -> row("w+2", 0));
        due(9, "w", () -> row("w+1", 20));
        due(9, "20", () -> row("w", 20));
        due(9, "0", () -> row("w", 0));
        due(9, "w*2+3", () -> row("w*3", 3));
        due(9, "w*2", () -> row("w*3", 0));
        due(9, "w^(2)+w*4", () -> row("w^(2)*2", 4));
        due(9, "w^(4)", () -> row("w^(w)", 4));
        due(9, "1", () -> row("w^(w)", 0));
        due(9, "w^(w)*2+w^(4)", () -> row("w^(w)*3", 4));
        due(9, "w^(w)*4", () -> row("w^(w+1)", 4));
        due(9, "w^(w+4)", () -> row("w^(w*2)", 4));
        due(9, "w^(w)", () -> row("w^(w*2)", 0));
        due(9, "w^(w^(2))+w^(w*3)", () -> row("w^(w^(2))*2", 3));
        due(9, "w^(w^(w)*2+w^(3))", () -> row("w^(w^(w)*3)", 3));
        due(9, "w^(w^(w^(w)+w*2))", () -> row("w^(w^(w^(w)+w^(2)))", 2));
        due(9, "w^(w^(w^(w)))", () -> row("w^(w^(w^(w)+w))", 0));
        Epsilonhall x = new Epsilonhall();
        int w = make(x, "w");
        for (int odd : new int[] {-1, 2, LEAST, GREATEST}) {
            refused(9, INDEX, x, () -> x.row(odd, 0));
            refused(9, INDEX, x, () -> x.row(odd, 21));
        }
        for (int odd : new int[] {-1, 21, LEAST, GREATEST}) {
            refused(9, ARGUMENT, x, () -> x.row(w, odd));
        }
        // Of the size 150, with w twice: what the row tells has the 1 behind w more.
        int great = x.sum(greatest(x), w);
        due(9, 150, () -> x.size(great));
        refused(9, UNSUPPORTED, x, () -> x.row(great, 1));
        refused(9, ARGUMENT, x, () -> x.row(great, 21));
        due(9, 150, () -> x.size(x.row(great, 0)));
        fill(x);
        refused(9, UNSUPPORTED, x, () -> x.row(great, 1));
        refused(9, STATE, x, () -> x.row(great, 0));
        refused(9, ARGUMENT, x, () -> x.row(great, -1));
    }

    // ---- promises 10 and 11

    private static void comparing() {
        Epsilonhall x = new Epsilonhall();
        String[] rising = {"0", "1", "2", "w", "w+1", "w*2", "w*2+5", "w^(2)", "w^(2)+w", "w^(2)*3", "w^(3)", "w^(w)",
            "w^(w)+w^(2)*9", "w^(w)*2", "w^(w+1)", "w^(w*2)", "w^(w^(2))", "w^(w^(2)+1)", "w^(w^(w))"};
        for (int k = 0; k < rising.length; k++) {
            for (int j = 0; j < rising.length; j++) {
                Epsilonhall y = new Epsilonhall();
                int one = make(y, rising[k]);
                int other = make(y, rising[j]);
                due(11, k < j ? '<' : k > j ? '>' : '=', () -> y.compare(one, other));
            }
        }
        due(10, 0, () -> x.ordinals());
        x.number(4);
        due(10, 1, () -> x.ordinals());
        x.number(4);
        due(10, 2, () -> x.ordinals());
        due(11, '=', () -> x.compare(0, 0));
        due(11, '=', () -> x.compare(0, 1));
        for (int odd : new int[] {-1, 2, LEAST, GREATEST}) {
            dueThrow(11, INDEX, () -> x.compare(odd, 0));
            dueThrow(11, INDEX, () -> x.compare(0, odd));
        }
        due(10, 2, () -> x.ordinals());
        fill(x);
        due(10, 60, () -> x.ordinals());
    }

    // ---- promises 12 to 16

    private static void asked(String text, int degree, int size, boolean isLimit, int terms) {
        Epsilonhall x = new Epsilonhall();
        int k = make(x, text);
        due(12, degree, () -> x.degree(k));
        due(13, size, () -> x.size(k));
        due(14, isLimit, () -> x.isLimit(k));
        due(15, terms, () -> x.terms(k));
    }

    private static void asking() {
        asked("0", 0, 0, false, 0);
        asked("999999", 1, 1, false, 1);
        asked("w", 2, 2, true, 1);
        asked("w+1", 2, 3, false, 2);
        asked("w^(2)*7+w", 2, 4, true, 2);
        asked("w^(w)+w^(2)+w+3", 3, 8, false, 4);
        asked("w^(w^(2)+w*3+1)*2+w^(w)", 3, 9, true, 2);
        asked("w^(w^(w^(w^(w))))", 6, 6, true, 1);
        Epsilonhall x = new Epsilonhall();
        int k = make(x, "w^(w)*7+w^(2)*5+w+999999");
        int zero = x.number(0);
        int[] counts = {7, 5, 1, 999999};
        for (int j = 0; j < 4; j++) {
            int term = j;
            due(16, counts[term], () -> x.countOf(k, term));
        }
        for (int odd : new int[] {-1, 4, LEAST, GREATEST}) {
            dueThrow(16, INDEX, () -> x.countOf(k, odd));
        }
        dueThrow(16, INDEX, () -> x.countOf(zero, 0));
        for (int odd : new int[] {-1, 60, LEAST, GREATEST}) {
            dueThrow(12, INDEX, () -> x.degree(odd));
            dueThrow(13, INDEX, () -> x.size(odd));
            dueThrow(14, INDEX, () -> x.isLimit(odd));
            dueThrow(15, INDEX, () -> x.terms(odd));
            dueThrow(16, INDEX, () -> x.countOf(odd, 0));
        }
    }

    // ---- promise 17

    private static void exponents() {
        Two second = (x, a, b) -> x.exponentOf(a, 1);
        due(17, "2", () -> made(second, "w^(w)*7+w^(2)*5+w+9", "0"));
        due(17, "w^(w)+3", () -> made(second, "w^(w^(w)*2)+w^(w^(w)+3)", "0"));
        due(17, "w", () -> made((x, a, b) -> x.exponentOf(a, 0), "w^(w)*7+w^(2)*5+w+9", "0"));
        due(17, "0", () -> made((x, a, b) -> x.exponentOf(a, 3), "w^(w)*7+w^(2)*5+w+9", "0"));
        due(17, "0", () -> made((x, a, b) -> x.exponentOf(a, 0), "5", "0"));
        Epsilonhall x = new Epsilonhall();
        int k = make(x, "w+1");
        int zero = x.number(0);
        for (int odd : new int[] {-1, 2, LEAST, GREATEST}) {
            refused(17, INDEX, x, () -> x.exponentOf(k, odd));
        }
        refused(17, INDEX, x, () -> x.exponentOf(zero, 0));
        refused(17, INDEX, x, () -> x.exponentOf(-1, 0));
        refused(17, INDEX, x, () -> x.exponentOf(x.ordinals(), 0));
        fill(x);
        refused(17, STATE, x, () -> x.exponentOf(k, 0));
        refused(17, INDEX, x, () -> x.exponentOf(k, 2));
    }

    // ---- promises 18 and 19

    private static void writing() {
        String[] texts = {"0", "7", "10", "999999", "100000", "w", "w*2", "w*999999+1", "w^(2)", "w^(2)*3+w+5", "w^(w)",
            "w^(w+1)*12", "w^(w^(w*2+3)*4+w)+w^(11)+w"};
        for (String one : texts) {
            Epsilonhall x = new Epsilonhall();
            int k = make(x, one);
            due(18, one.length(), () -> x.length(k));
            due(19, one, () -> text(x, k));
            for (int odd : new int[] {-1, one.length(), LEAST, GREATEST}) {
                dueThrow(19, INDEX, () -> x.signAt(k, odd));
            }
            dueThrow(18, INDEX, () -> x.length(-1));
            dueThrow(18, INDEX, () -> x.length(x.ordinals()));
            dueThrow(19, INDEX, () -> x.signAt(-1, 0));
            dueThrow(19, INDEX, () -> x.signAt(x.ordinals(), 0));
        }
        Epsilonhall x = new Epsilonhall();
        // 75 terms, "w^(k)" each, but for "w", with + between.
        due(18, 8 * 5 + 66 * 6 + 1 + 74, () -> x.length(greatest(x)));
    }

    // ---- promises 20 to 23

    private interface Function {
        int tell(Epsilonhall x, int ordinal, int n);
    }

    private static int told(Function function, String text, int n) {
        Epsilonhall x = new Epsilonhall();
        int k = make(x, text);
        int before = x.ordinals();
        int told = function.tell(x, k, n);
        return x.ordinals() == before && text(x, k).equals(text) ? told : -1;
    }

    /** Goes down by the row for 0 from an ordinal of the size 150, what it tells first being of that size too. */
    private static int toldFromGreatest(Function function) {
        Epsilonhall x = new Epsilonhall();
        return function.tell(x, x.sum(greatest(x), make(x, "w")), 0);
    }

    private static void wrongFunction(int promise, Function function, int most) {
        Epsilonhall x = new Epsilonhall();
        x.number(1);
        int great = tower(x, 6);
        for (int odd : new int[] {-1, 7, LEAST, GREATEST}) {
            refused(promise, INDEX, x, () -> function.tell(x, odd, 1));
            refused(promise, INDEX, x, () -> function.tell(x, odd, -1));
        }
        for (int odd : new int[] {-1, most + 1, LEAST, GREATEST}) {
            refused(promise, ARGUMENT, x, () -> function.tell(x, 0, odd));
            refused(promise, ARGUMENT, x, () -> function.tell(x, great, odd));
        }
        refused(promise, UNSUPPORTED, x, () -> function.tell(x, great, 4));
        fill(x);
        dueThrow(promise, STATE, () -> x.number(0));
        Epsilonhall y = new Epsilonhall();
        int w = make(y, "w");
        // The row of what is left, with the size 150, comes to a size of more.
        int wide = y.sum(greatest(y), w);
        refused(promise, UNSUPPORTED, y, () -> function.tell(y, wide, 1));
        due(promise, true, () -> function.tell(y, y.number(1), most) > 0);
    }

    private static void slowFunction() {
        Function slow = (x, k, n) -> x.slow(k, n);
        due(20, 0, () -> told(slow, "0", 5));
        due(20, 7, () -> told(slow, "7", 5));
        due(20, 5, () -> told(slow, "w", 5));
        due(20, 0, () -> told(slow, "w", 0));
        due(20, 100, () -> told(slow, "w", 100));
        due(20, 9 * 2 + 3 + 1, () -> told(slow, "w^(2)*2+w+1", 3));
        due(20, 27, () -> told(slow, "w^(w)", 3));
        due(20, 16, () -> told(slow, "w^(w^(w))", 2));
        due(20, 1, () -> told(slow, "w^(w)", 0));
        due(20, 1, () -> told(slow, "w^(w^(w))", 1));
        due(20, 19999, () -> told(slow, "19999", 0));
        dueThrow(20, UNSUPPORTED, () -> told(slow, "20000", 0));
        due(20, 19998, () -> told(slow, "w+19898", 100));
        dueThrow(20, UNSUPPORTED, () -> told(slow, "w+19899", 100));
        dueThrow(20, UNSUPPORTED, () -> told(slow, "999999", 0));
        dueThrow(20, UNSUPPORTED, () -> told(slow, "w^(3)", 100));
        due(20, 0, () -> toldFromGreatest(slow));
        wrongFunction(20, slow, 100);
    }

    private static void hardyFunction() {
        Function hardy = (x, k, n) -> x.hardy(k, n);
        due(21, 5, () -> told(hardy, "0", 5));
        due(21, 12, () -> told(hardy, "7", 5));
        due(21, 10, () -> told(hardy, "w", 5));
        due(21, 0, () -> told(hardy, "w", 0));
        due(21, 14, () -> told(hardy, "w+2", 5));
        due(21, 20, () -> told(hardy, "w*2", 5));
        due(21, 160, () -> told(hardy, "w^(2)", 5));
        due(21, 2048, () -> told(hardy, "w^(3)", 2));
        due(21, 8, () -> told(hardy, "w^(w)", 2));
        due(21, 1, () -> told(hardy, "w^(w)", 0));
        due(21, 20099, () -> told(hardy, "19999", 100));
        dueThrow(21, UNSUPPORTED, () -> told(hardy, "20000", 100));
        dueThrow(21, UNSUPPORTED, () -> told(hardy, "w^(3)", 3));
        dueThrow(21, UNSUPPORTED, () -> told(hardy, "999999", 100));
        due(21, 0, () -> toldFromGreatest(hardy));
        wrongFunction(21, hardy, 100);
    }

    private static void fastFunction() {
        Function fast = (x, k, n) -> x.fast(k, n);
        due(22, 6, () -> told(fast, "0", 5));
        due(22, 10, () -> told(fast, "1", 5));
        due(22, 200, () -> told(fast, "1", 100));
        due(22, 160, () -> told(fast, "2", 5));
        due(22, 10240, () -> told(fast, "2", 10));
        dueThrow(22, UNSUPPORTED, () -> told(fast, "2", 11));
        due(22, 2048, () -> told(fast, "3", 2));
        dueThrow(22, UNSUPPORTED, () -> told(fast, "4", 2));
        due(22, 8, () -> told(fast, "w", 2));
        due(22, 2, () -> told(fast, "w", 1));
        due(22, 1, () -> told(fast, "w", 0));
        due(22, 0, () -> told(fast, "9", 0));
        due(22, 0, () -> told(fast, "w+1", 0));
        due(22, 2, () -> told(fast, "19999", 1));
        dueThrow(22, UNSUPPORTED, () -> told(fast, "20000", 1));
        due(22, 0, () -> told(fast, "999999", 0));
        due(22, 2, () -> told(fast, "w^(w^(w))+w*3+5", 1));
        dueThrow(22, UNSUPPORTED, () -> told(fast, "w+1", 2));
        dueThrow(22, UNSUPPORTED, () -> told(fast, "w^(w^(w))", 100));
        due(22, 1, () -> toldFromGreatest(fast));
        wrongFunction(22, fast, 100);
    }

    private static void steppingDown() {
        Function steps = (x, k, n) -> x.stepsDown(k, n);
        due(23, 0, () -> told(steps, "0", 5));
        due(23, 7, () -> told(steps, "7", 5));
        due(23, 6, () -> told(steps, "w", 5));
        due(23, 1, () -> told(steps, "w", 0));
        due(23, 4, () -> told(steps, "w+1", 1));
        due(23, 13, () -> told(steps, "w^(2)", 2));
        due(23, 2, () -> told(steps, "w^(w)", 0));
        due(23, 20000, () -> told(steps, "20000", 20));
        dueThrow(23, UNSUPPORTED, () -> told(steps, "20001", 20));
        due(23, 19991, () -> told(steps, "w+9985", 20));
        dueThrow(23, UNSUPPORTED, () -> told(steps, "w+9990", 20));
        dueThrow(23, UNSUPPORTED, () -> told(steps, "w^(3)", 20));
        wrongFunction(23, steps, 20);
    }

    // ---- promises 24 to 27

    private static void buffers() {
        Epsilonhall x = new Epsilonhall();
        due(24, 1, () -> x.put(0));
        due(24, 2, () -> x.put(11));
        for (int odd : new int[] {-1, 12, LEAST, GREATEST}) {
            dueThrow(24, ARGUMENT, () -> x.put(odd));
        }
        for (int k = 3; k <= 12; k++) {
            int next = k;
            due(24, next, () -> x.put(1));
        }
        dueThrow(24, STATE, () -> x.put(1));
        dueThrow(24, ARGUMENT, () -> x.put(12));
        dueThrow(25, ARGUMENT, () -> x.worm());
        dueThrow(26, ARGUMENT, () -> x.hydra());
        dueThrow(24, STATE, () -> x.put(1));
    }

    private static void beginnings() {
        Epsilonhall x = new Epsilonhall();
        dueThrow(25, ARGUMENT, () -> x.worm());
        put(x, 9, 0, 3);
        due(25, 0, () -> x.worm());
        due(25, "9 0 3", () -> numbers(x, 0));
        due(25, 1, () -> x.put(10));
        dueThrow(25, ARGUMENT, () -> x.worm());
        dueThrow(26, ARGUMENT, () -> x.hydra());
        due(25, 2, () -> x.put(0));
        due(26, 1, () -> hydra(new Epsilonhall()) + 1);
        Epsilonhall y = new Epsilonhall();
        due(26, 0, () -> hydra(y, 0, 1, 1, 3, 0, 5, 6, 7, 8, 9, 10));
        due(26, "-1 0 1 1 3 0 5 6 7 8 9 10", () -> numbers(y, 0));
        due(26, 1, () -> y.hydra());
        due(26, "-1", () -> numbers(y, 1));
        due(26, true, () -> y.isOver(1));
        dueThrow(26, ARGUMENT, () -> hydra(y, 1));
        due(26, 2, () -> y.put(0));
        due(25, 2, () -> y.worm());
        due(25, "1 0", () -> numbers(y, 2));
        dueThrow(26, ARGUMENT, () -> hydra(y, 0, 1, 3));
        due(25, 3, () -> y.worm());
        dueThrow(26, ARGUMENT, () -> hydra(y, 0, 0, 0, 0, 0, 0, 0, 0, 0, 0, 0, 0));
        due(25, 4, () -> y.worm());
        due(27, 5, () -> y.bases(0));
        due(27, 6, () -> y.bases(999999));
        for (int odd : new int[] {-1, 1000000, LEAST, GREATEST}) {
            dueThrow(27, ARGUMENT, () -> y.bases(odd));
        }
        due(27, 0L, () -> y.measure(5));
        due(27, 999999L, () -> y.measure(6));
        put(y, 0, 0);
        due(27, 7, () -> y.bases(3));
        dueThrow(27, STATE, () -> y.bases(3));
        dueThrow(27, ARGUMENT, () -> y.bases(-1));
        dueThrow(25, STATE, () -> y.worm());
        dueThrow(26, STATE, () -> y.hydra());
        due(24, 3, () -> y.put(11));
        dueThrow(25, ARGUMENT, () -> y.worm());
        dueThrow(26, ARGUMENT, () -> y.hydra());
        dueThrow(28, INDEX, () -> y.kindOf(8));
    }

    // ---- worms: promises 28 to 37

    private static void wormMoves() {
        Epsilonhall x = new Epsilonhall();
        int g = worm(x, 2, 1, 2);
        due(28, 'w', () -> x.kindOf(g));
        due(29, false, () -> x.isOver(g));
        due(30, 0, () -> x.moves(g));
        due(31, 3L, () -> x.measure(g));
        due(32, 1, () -> x.at(g, 1));
        dueThrow(32, INDEX, () -> x.at(g, 3));
        dueThrow(32, INDEX, () -> x.at(g, -1));
        due(33, false, () -> x.move(g));
        due(33, "2 1 1 1", () -> numbers(x, g));
        due(33, false, () -> x.move(g));
        due(33, "2 1 1 0 2 1 1 0 2 1 1 0", () -> numbers(x, g));
        due(33, false, () -> x.move(g));
        due(33, "2 1 1 0 2 1 1 0 2 1 1", () -> numbers(x, g));
        due(33, false, () -> x.move(g));
        due(33, "2 1 1 0 2 1 1 0 2 1 0 2 1 0 2 1 0 2 1 0 2 1 0", () -> numbers(x, g));
        due(30, 4, () -> x.moves(g));
        due(31, 23L, () -> x.measure(g));
        Epsilonhall y = new Epsilonhall();
        int zeros = worm(y, 0, 0);
        due(33, false, () -> y.move(zeros));
        due(33, true, () -> y.move(zeros));
        due(29, true, () -> y.isOver(zeros));
        due(31, 0L, () -> y.measure(zeros));
        dueThrow(32, INDEX, () -> y.at(zeros, 0));
        dueThrow(33, UNSUPPORTED, () -> y.move(zeros));
        due(35, 0, () -> y.play(zeros, 200));
        due(30, 2, () -> y.moves(zeros));
        int one = worm(y, 1);
        due(35, 1, () -> y.play(one, 1));
        due(33, "0 0", () -> numbers(y, one));
        due(35, 2, () -> y.play(one, 200));
        due(29, true, () -> y.isOver(one));
        dueThrow(34, INDEX, () -> y.cut(zeros, 0));
        wormLimits();
    }

    private static void wormLimits() {
        Epsilonhall x = new Epsilonhall();
        int hit = worm(x, 0, 2, 1, 2);
        due(35, 13, () -> x.play(hit, 13));
        due(31, 300L, () -> x.measure(hit));
        int past = worm(x, 0, 1, 2, 0, 1);
        due(35, 38, () -> x.play(past, 200));
        due(31, 262L, () -> x.measure(past));
        due(29, false, () -> x.isOver(past));
        String before = numbers(x, past);
        dueThrow(33, UNSUPPORTED, () -> x.move(past));
        due(33, before, () -> numbers(x, past));
        due(30, 38, () -> x.moves(past));
        due(35, 0, () -> x.play(past, 1));
        due(37, true, () -> x.falls(past));
    }

    private static void wormOrdinals() {
        weighed("1", 0);
        weighed("4", 0, 0, 0, 0);
        weighed("w", 1);
        weighed("w^(2)", 1, 1);
        weighed("w+1", 1, 0);
        weighed("w", 0, 1);
        weighed("w*2", 1, 0, 1);
        weighed("w^(w)", 2);
        weighed("w^(w)", 1, 0, 2);
        weighed("w^(w)+w", 2, 0, 1);
        weighed("w^(w)+w+1", 2, 0, 1, 0);
        weighed("w^(w+1)", 2, 1);
        weighed("w^(w^(w))", 3);
        weighed("w^(w^(w^(w^(w))))", 5);
        Epsilonhall x = new Epsilonhall();
        int great = worm(x, 6);
        refused(36, UNSUPPORTED, x, () -> x.ordinalOf(great));
        int mixed = worm(x, 0, 6, 0);
        refused(36, UNSUPPORTED, x, () -> x.ordinalOf(mixed));
        int nine = worm(x, 9);
        due(35, true, () -> x.play(nine, 200) > 0);
        due(37, true, () -> x.falls(nine));
        x.move(great);
        due(36, "w^(w^(w^(w^(w^(2)))))", () -> weight(x, great));
        due(37, true, () -> x.falls(great));
    }

    private static void weighed(String text, int... numbers) {
        Epsilonhall x = new Epsilonhall();
        int g = worm(x, numbers);
        due(36, text, () -> weight(x, g));
    }

    // ---- hydras: promises 28 to 37

    private static void hydraMoves() {
        Epsilonhall x = new Epsilonhall();
        int g = hydra(x, 0, 1, 2, 1);
        due(28, 'h', () -> x.kindOf(g));
        due(29, false, () -> x.isOver(g));
        due(31, 5L, () -> x.measure(g));
        due(32, -1, () -> x.at(g, 0));
        due(32, 2, () -> x.at(g, 3));
        dueThrow(32, INDEX, () -> x.at(g, 5));
        dueThrow(32, INDEX, () -> x.at(g, -1));
        dueThrow(34, UNSUPPORTED, () -> x.cut(g, 0));
        dueThrow(34, UNSUPPORTED, () -> x.cut(g, 1));
        dueThrow(34, UNSUPPORTED, () -> x.cut(g, 2));
        dueThrow(34, INDEX, () -> x.cut(g, 5));
        dueThrow(34, INDEX, () -> x.cut(g, -1));
        due(30, 0, () -> x.moves(g));
        // The head 3 hangs on 2, which alone is copied, once, onto 1.
        due(33, false, () -> x.move(g));
        due(33, "-1 0 1 x 1 1", () -> numbers(x, g));
        dueThrow(32, NONE, () -> x.at(g, 3));
        dueThrow(34, UNSUPPORTED, () -> x.cut(g, 3));
        // The head 4 hangs on 1, which is copied twice with 2 and 5, onto the root.
        due(34, false, () -> x.cut(g, 4));
        due(34, "-1 0 1 x x 1 0 6 6 0 9 9", () -> numbers(x, g));
        due(31, 10L, () -> x.measure(g));
        due(30, 2, () -> x.moves(g));
        // The head 2 on 1 comes next: three copies of 1, with 5, onto the root.
        due(33, false, () -> x.move(g));
        due(33, "-1 0 x x x 1 0 6 6 0 9 9 0 12 0 14 0 16", () -> numbers(x, g));
        Epsilonhall y = new Epsilonhall();
        int flat = hydra(y, 0, 0);
        due(34, false, () -> y.cut(flat, 2));
        due(33, true, () -> y.move(flat));
        due(33, "-1 x x", () -> numbers(y, flat));
        due(29, true, () -> y.isOver(flat));
        due(31, 1L, () -> y.measure(flat));
        dueThrow(33, UNSUPPORTED, () -> y.move(flat));
        dueThrow(34, UNSUPPORTED, () -> y.cut(flat, 1));
        dueThrow(34, UNSUPPORTED, () -> y.cut(flat, 0));
        dueThrow(34, INDEX, () -> y.cut(flat, 3));
        due(35, 0, () -> y.play(flat, 5));
        int two = hydra(y, 0, 1);
        due(35, 3, () -> y.play(two, 200));
        due(29, true, () -> y.isOver(two));
        hydraLimits();
    }

    private static void hydraLimits() {
        Epsilonhall x = new Epsilonhall();
        int hit = hydra(x, 0, 0, 2, 2, 2, 3);
        due(35, 11, () -> x.play(hit, 11));
        due(31, 289L, () -> x.measure(hit));
        due(32, true, () -> x.at(hit, 299) >= 0);
        dueThrow(32, INDEX, () -> x.at(hit, 300));
        int past = hydra(x, 0, 1, 2, 1, 3);
        due(35, 7, () -> x.play(past, 200));
        due(29, false, () -> x.isOver(past));
        String before = numbers(x, past);
        dueThrow(33, UNSUPPORTED, () -> x.move(past));
        due(33, before, () -> numbers(x, past));
        due(30, 7, () -> x.moves(past));
        due(35, 0, () -> x.play(past, 1));
        due(37, true, () -> x.falls(past));
    }

    private static void hydraOrdinals() {
        Epsilonhall x = new Epsilonhall();
        int root = hydra(x);
        due(36, "0", () -> weight(x, root));
        int mixed = hydra(x, 0, 1, 0, 0, 4, 5, 4, 0);
        due(36, "w^(w+1)+w+2", () -> weight(x, mixed));
        int six = hydra(x, 0, 1, 2, 3, 4, 5);
        due(36, "w^(w^(w^(w^(w))))", () -> weight(x, six));
        int seven = hydra(x, 0, 1, 2, 3, 4, 5, 6);
        refused(36, UNSUPPORTED, x, () -> x.ordinalOf(seven));
        // A move that comes to what is not too great any more.
        due(33, false, () -> x.move(seven));
        due(36, "w^(w^(w^(w^(w^(2)))))", () -> weight(x, seven));
        due(37, true, () -> x.falls(seven));
        fill(x);
        refused(36, STATE, x, () -> x.ordinalOf(six));
        Epsilonhall y = new Epsilonhall();
        int deep = hydra(y, 0, 1, 2, 3, 4, 5, 6);
        fill(y);
        refused(36, UNSUPPORTED, y, () -> y.ordinalOf(deep));
    }

    // ---- rows of bases: promises 28 to 37

    private static void basesMoves() {
        Epsilonhall x = new Epsilonhall();
        int four = x.bases(4);
        due(28, 'b', () -> x.kindOf(four));
        due(36, "w^(w)", () -> weight(x, four));
        long[] four4 = {26, 41, 60, 83, 109, 139, 173, 211, 253, 299};
        for (long number : four4) {
            due(33, false, () -> x.move(four));
            due(31, number, () -> x.measure(four));
        }
        due(30, 10, () -> x.moves(four));
        due(36, "w^(2)*2+11", () -> weight(x, four));
        due(37, true, () -> x.falls(four));
        dueThrow(32, INDEX, () -> x.at(four, 0));
        dueThrow(34, INDEX, () -> x.cut(four, 0));
        int three = x.bases(3);
        due(36, "w+1", () -> weight(x, three));
        due(35, 5, () -> x.play(three, 200));
        due(29, true, () -> x.isOver(three));
        due(36, "0", () -> weight(x, three));
        dueThrow(33, UNSUPPORTED, () -> x.move(three));
        int zero = x.bases(0);
        due(29, true, () -> x.isOver(zero));
        dueThrow(33, UNSUPPORTED, () -> x.move(zero));
        int one = x.bases(1);
        due(33, true, () -> x.move(one));
        int sixteen = x.bases(16);
        dueThrow(33, UNSUPPORTED, () -> x.move(sixteen));
        due(31, 16L, () -> x.measure(sixteen));
        due(30, 0, () -> x.moves(sixteen));
        due(36, "w^(w^(w))", () -> weight(x, sixteen));
        int six = x.bases(6);
        due(35, 179, () -> x.play(six, 200));
        due(31, 976717452811L, () -> x.measure(six));
        dueThrow(33, UNSUPPORTED, () -> x.move(six));
        int seven = x.bases(7);
        due(35, 37, () -> x.play(seven, 37));
        due(31, 985896442659L, () -> x.measure(seven));
        due(35, 0, () -> x.play(seven, 200));
        due(37, true, () -> x.falls(seven));
        Epsilonhall y = new Epsilonhall();
        int great = y.bases(999999);
        due(33, 20, () -> Integer.toBinaryString((int) y.measure(great)).length());
        due(36, true, () -> y.size(y.ordinalOf(great)) > 20);
        int eleven = y.bases(11);
        due(36, "w^(w+1)+w+1", () -> weight(y, eleven));
    }

    // ---- games of all kinds

    private static void gamesTogether() {
        Epsilonhall x = new Epsilonhall();
        worm(x, 1);
        hydra(x, 0, 1);
        x.bases(2);
        for (int odd : new int[] {-1, 3, 8, LEAST, GREATEST}) {
            dueThrow(28, INDEX, () -> x.kindOf(odd));
            dueThrow(29, INDEX, () -> x.isOver(odd));
            dueThrow(30, INDEX, () -> x.moves(odd));
            dueThrow(31, INDEX, () -> x.measure(odd));
            dueThrow(32, INDEX, () -> x.at(odd, 0));
            dueThrow(33, INDEX, () -> x.move(odd));
            dueThrow(34, INDEX, () -> x.cut(odd, 1));
            dueThrow(35, INDEX, () -> x.play(odd, 1));
            dueThrow(35, INDEX, () -> x.play(odd, 0));
            refused(36, INDEX, x, () -> x.ordinalOf(odd));
            dueThrow(37, INDEX, () -> x.falls(odd));
            dueThrow(38, INDEX, () -> x.embeds(odd, 1));
            dueThrow(38, INDEX, () -> x.embeds(1, odd));
            dueThrow(38, INDEX, () -> x.embeds(0, odd));
        }
        for (int odd : new int[] {0, -1, 201, LEAST, GREATEST}) {
            dueThrow(35, ARGUMENT, () -> x.play(0, odd));
        }
        for (int k = 0; k < 3; k++) {
            int game = k;
            due(30, 0, () -> x.moves(game));
            due(37, true, () -> x.falls(game));
            due(29, false, () -> x.isOver(game));
        }
        due(35, 3, () -> x.play(0, 200));
        due(35, 3, () -> x.play(1, 200));
        due(35, 3, () -> x.play(2, 200));
        for (int k = 0; k < 3; k++) {
            int game = k;
            due(30, 3, () -> x.moves(game));
            due(37, true, () -> x.falls(game));
            due(29, true, () -> x.isOver(game));
            due(36, "0", () -> weight(x, game));
        }
    }

    // ---- promise 38

    private static void embeddings() {
        Epsilonhall x = new Epsilonhall();
        int root = hydra(x);
        int path = hydra(x, 0, 1, 2);
        int fork = hydra(x, 0, 0);
        int longFork = hydra(x, 0, 1, 0, 3);
        int forkAbove = hydra(x, 0, 1, 1);
        int three = hydra(x, 0, 0, 0);
        String[] want = {"111111", "010000", "001111", "000100", "000010", "000001"};
        // The root embeds in all, and a fork in each that has a fork; the others embed in themselves alone.
        int[] all = {root, path, fork, longFork, forkAbove, three};
        for (int k = 0; k < 6; k++) {
            for (int j = 0; j < 6; j++) {
                int one = all[k];
                int other = all[j];
                due(38, want[k].charAt(j) == '1', () -> x.embeds(one, other));
            }
        }
        int worm = worm(x, 1);
        dueThrow(38, UNSUPPORTED, () -> x.embeds(worm, root));
        dueThrow(38, UNSUPPORTED, () -> x.embeds(root, worm));
        Epsilonhall y = new Epsilonhall();
        int grown = hydra(y, 0, 1, 1, 1, 1, 1, 1, 1, 1);
        due(38, true, () -> y.embeds(grown, grown));
        y.move(grown);
        due(31, 17L, () -> y.measure(grown));
        dueThrow(38, UNSUPPORTED, () -> y.embeds(grown, grown));
        int small = hydra(y, 0, 1, 1, 1);
        dueThrow(38, UNSUPPORTED, () -> y.embeds(small, grown));
        dueThrow(38, UNSUPPORTED, () -> y.embeds(grown, small));
        Epsilonhall z = new Epsilonhall();
        int fourteen = hydra(z, 0, 1, 1, 1, 1, 1, 1, 0, 0);
        z.move(fourteen);
        due(31, 15L, () -> z.measure(fourteen));
        dueThrow(38, UNSUPPORTED, () -> z.embeds(fourteen, fourteen));
        z.cut(fourteen, 8);
        due(31, 14L, () -> z.measure(fourteen));
        due(38, true, () -> z.embeds(fourteen, fourteen));
        int other = hydra(z, 0, 1, 1, 1, 1, 1, 0, 7, 7, 7, 7);
        due(38, false, () -> z.embeds(fourteen, other));
        due(38, true, () -> z.embeds(other, fourteen));
        // The knots that were given first must move on to others.
        int asking = hydra(z, 0, 0, 2, 0, 4, 4);
        int given = hydra(z, 0, 1, 1, 0, 4, 0);
        int given2 = hydra(z, 0, 0, 2, 0, 4);
        due(38, true, () -> z.embeds(asking, given));
        due(38, false, () -> z.embeds(asking, given2));
    }

    // ---- promises 39 and 43

    private static void counters() {
        Epsilonhall x = new Epsilonhall();
        for (int k = 0; k < 4; k++) {
            int counter = k;
            due(39, 0, () -> x.setCounter(counter, 10 + counter));
        }
        for (int k = 0; k < 4; k++) {
            int counter = k;
            due(43, 10 + counter, () -> x.counter(counter));
            due(39, 10 + counter, () -> x.setCounter(counter, 999999));
            due(39, 999999, () -> x.setCounter(counter, 0));
        }
        for (int odd : new int[] {-1, 4, LEAST, GREATEST}) {
            dueThrow(39, ARGUMENT, () -> x.setCounter(odd, 1));
            dueThrow(43, ARGUMENT, () -> x.counter(odd));
        }
        for (int odd : new int[] {-1, 1000000, LEAST, GREATEST}) {
            dueThrow(39, ARGUMENT, () -> x.setCounter(0, odd));
        }
        due(43, 0, () -> x.counter(0));
    }

    // ---- promises 40 and 44

    private static void addingSteps() {
        Epsilonhall x = new Epsilonhall();
        int[][] odd = {{-1, 1, 1, 2, 1}, {4, 1, 1, 2, 1}, {0, -2, 1, 2, 1}, {0, 4, 1, 2, 1}, {0, 1, -5, 2, 1},
            {0, 1, 1001, 2, 1}, {0, 1, 1, -2, 1}, {0, 1, 1, 4, 1}, {0, 1, 1, 2, -5}, {0, 1, 1, 2, 1001},
            {0, -1, -5, 2, 1}, {0, -1, 1001, 2, 1}, {0, 1, 1, -1, -5}, {0, 1, 1, -1, 1001}, {0, 0, 1, 2, 1},
            {0, 1, 1, 0, 1}, {0, 1, 1, 1, 1}, {1, 0, 1, 0, 1}, {3, 3, 0, -1, 0}, {LEAST, 1, 1, 2, 1},
            {GREATEST, 1, 1, 2, 1},
            {0, LEAST, 1, 2, 1}, {0, 1, GREATEST, 2, 1}, {0, 1, LEAST, 2, 1}, {0, 1, 1, GREATEST, 1}};
        for (int[] one : odd) {
            dueThrow(40, ARGUMENT, () -> x.addStep(one[0], one[1], one[2], one[3], one[4]));
        }
        dueThrow(44, INDEX, () -> x.holds(0));
        due(40, 0, () -> x.addStep(0, 1, 1000, 2, -4));
        due(40, 1, () -> x.addStep(3, -1, 0, -1, 0));
        due(40, 2, () -> x.addStep(1, 0, -2, -1, -4));
        due(40, 3, () -> x.addStep(1, -1, 0, 0, -1));
        due(40, 4, () -> x.addStep(2, 3, 0, 1, 0));
        due(40, 5, () -> x.addStep(2, 1, 0, 3, 0));
        due(40, 6, () -> x.addStep(1, 2, 0, 3, 0));
        due(40, 7, () -> x.addStep(0, 3, -4, -1, -1));
        dueThrow(40, STATE, () -> x.addStep(0, 1, 0, 2, 0));
        for (int[] one : odd) {
            dueThrow(40, ARGUMENT, () -> x.addStep(one[0], one[1], one[2], one[3], one[4]));
        }
        boolean[] held = {true, true, false, false, false, false, true, true};
        boolean[] turned = {false, true, true, true, false, false, false, false};
        for (int k = 0; k < 8; k++) {
            int step = k;
            due(44, held[step], () -> x.holds(step));
        }
        due(41, 123, () -> x.setOrder(3210));
        for (int k = 0; k < 8; k++) {
            int step = k;
            due(44, turned[step], () -> x.holds(step));
        }
        for (int wrongStep : new int[] {-1, 8, LEAST, GREATEST}) {
            dueThrow(44, INDEX, () -> x.holds(wrongStep));
        }
    }

    // ---- promise 41

    private static void orders() {
        Epsilonhall x = new Epsilonhall();
        due(41, 123, () -> x.setOrder(3210));
        due(41, 3210, () -> x.setOrder(1023));
        for (int odd : new int[] {1123, 12, 1234, 0, -1, -123, -3210, 3211, 10123, 13210, 122, 4321, 9999, 230, LEAST,
            GREATEST}) {
            dueThrow(41, ARGUMENT, () -> x.setOrder(odd));
        }
        due(41, 1023, () -> x.setOrder(213));
        due(41, 213, () -> x.setOrder(123));
        due(41, 123, () -> x.setOrder(123));
    }

    // ---- promises 42 and 46

    private static void rounds() {
        Epsilonhall x = new Epsilonhall();
        for (int odd : new int[] {0, -1, 1001, LEAST, GREATEST}) {
            dueThrow(42, ARGUMENT, () -> x.run(odd));
        }
        due(42, 0, () -> x.run(5));
        x.addStep(3, -1, 0, -1, 0);
        x.addStep(0, 3, 5, 1, -4);
        x.setCounter(0, 2);
        x.setCounter(3, 1);
        due(42, 1, () -> x.run(1));
        due(43, 0, () -> x.counter(3));
        due(42, 1, () -> x.run(1));
        due(43, 1, () -> x.counter(0));
        due(43, 5, () -> x.counter(3));
        due(43, 0, () -> x.counter(1));
        due(42, 11, () -> x.run(1000));
        due(42, 0, () -> x.run(1000));
        due(43, 0, () -> x.counter(0));
        due(46, 0, () -> x.rises());
        // What is told is what a counter is ahead of the step, also of the guard and of what is set too.
        Epsilonhall y = new Epsilonhall();
        y.addStep(0, 1, -1, 2, -2);
        y.setCounter(0, 7);
        y.setCounter(1, 3);
        y.setCounter(2, 9);
        due(42, 1, () -> y.run(1));
        due(43, 6, () -> y.counter(0));
        due(43, 7, () -> y.counter(1));
        due(43, 3, () -> y.counter(2));
        due(46, 0, () -> y.rises());
        // By the order 2, 1, 0, 3 the value becomes greater with 2, and less with 0 alone.
        y.setOrder(2103);
        y.setCounter(0, 6);
        y.setCounter(1, 6);
        y.setCounter(2, 6);
        due(42, 1, () -> y.run(1));
        due(46, 0, () -> y.rises());
        y.setCounter(2, 0);
        due(42, 1, () -> y.run(1));
        due(46, 1, () -> y.rises());
        y.setOrder(123);
        due(46, 1, () -> y.rises());
        due(42, 4, () -> y.run(1000));
        due(46, 1, () -> y.rises());
        Epsilonhall z = new Epsilonhall();
        z.addStep(0, 1, 1, -1, 0);
        z.addStep(1, 0, 1, -1, 0);
        z.setCounter(1, 1);
        due(42, 1000, () -> z.run(1000));
        due(46, 500, () -> z.rises());
    }

    // ---- promise 45

    private static void values() {
        Epsilonhall x = new Epsilonhall();
        due(45, "0", () -> text(x, x.value()));
        x.setCounter(0, 1);
        x.setCounter(1, 2);
        x.setCounter(2, 3);
        x.setCounter(3, 999999);
        due(45, "w^(3)+w^(2)*2+w*3+999999", () -> text(x, x.value()));
        x.setOrder(3120);
        due(45, "w^(3)*999999+w^(2)*2+w*3+1", () -> text(x, x.value()));
        x.setCounter(1, 0);
        x.setCounter(0, 0);
        due(45, "w^(3)*999999+w*3", () -> text(x, x.value()));
        due(45, 4, () -> x.value());
        fill(x);
        refused(45, STATE, x, () -> x.value());
    }

    // ---- promises 47 to 49

    private static void figures() {
        Epsilonhall x = new Epsilonhall();
        dueThrow(47, NONE, () -> x.overShare());
        dueThrow(48, NONE, () -> x.meanSize());
        x.bases(1);
        due(47, 0.0f, () -> x.overShare());
        x.bases(0);
        due(47, 0.5f, () -> x.overShare());
        x.bases(2);
        due(47, 1.0f / 3.0f, () -> x.overShare());
        x.move(0);
        due(47, 2.0f / 3.0f, () -> x.overShare());
        x.number(0);
        due(48, 0.0, () -> x.meanSize());
        x.number(5);
        due(48, 0.5, () -> x.meanSize());
        x.term(1, 2);
        due(48, 1.0, () -> x.meanSize());
        x.sum(2, 1);
        due(48, 1.5, () -> x.meanSize());
        x.number(3);
        x.number(3);
        due(48, 8.0 / 6.0, () -> x.meanSize());
        due(49, true, () -> x.isSound());
        Epsilonhall y = new Epsilonhall();
        make(y, "w^(w^(w^(w)*2+w)*3+w^(2))*2+w^(w*4)*9");
        tower(y, 6);
        y.number(0);
        int before = y.ordinals();
        due(49, true, () -> y.isSound());
        due(49, before, () -> y.ordinals());
        Epsilonhall z = new Epsilonhall();
        z.sum(greatest(z), make(z, "w"));
        due(49, true, () -> z.isSound());
    }
}
