import java.nio.file.Files;
import java.nio.file.Path;
import java.util.ArrayList;
import java.util.List;
import java.util.NoSuchElementException;
import java.util.Set;
import java.util.TreeSet;

/**
 * Each sentence of the document that names a boundary case, in the document's words, and a test of its own: the last
 * value that is allowed and the first one that isn't, nothing there, and everything full. A sentence that the document
 * does not have is a fault, and so is a range of the document that has no test.
 */
public final class EpsilonhallEdges {
    private static final String INDEX = "IndexOutOfBoundsException";
    private static final String ARGUMENT = "IllegalArgumentException";
    private static final String STATE = "IllegalStateException";
    private static final String UNSUPPORTED = "UnsupportedOperationException";
    private static final String NONE = "NoSuchElementException";
    private static final int LEAST = Integer.MIN_VALUE;
    private static final int GREATEST = Integer.MAX_VALUE;
    private static final String TOWER = "w^(w^(w^(w^(w))))";

    private static String document = "";
    private static final List<String> ranges = new ArrayList<>();
    private static final Set<String> ranged = new TreeSet<>();
    private static String asked = "";
    private static int wrong = 0;

    private interface Call {
        Object answer();
    }

    private interface Single {
        Object on(Epsilonhall x, int number);
    }

    private interface Adding {
        int on(Epsilonhall x);
    }

    public static void main(String[] args) throws Exception {
        readDocument();
        sixtyOrdinals();
        counts();
        nothingAtAll();
        degrees();
        sizes();
        sizesOfHydras();
        sizesOnTheWay();
        countsTooGreat();
        comparisons();
        reckoningWithZero();
        takingOff();
        limits();
        rowsOfOrdinals();
        rangesOfRows();
        slowOnes();
        hardyOnes();
        fastOnes();
        usesOnes();
        stepsDownward();
        buffer();
        worms();
        wormMoves();
        wormOrdinals();
        hydras();
        hydraMoves();
        bases();
        eightGames();
        tooGreatGames();
        hydrasTooGreat();
        basesTooGreat();
        indexes();
        movesAndPlays();
        fallingOrdinals();
        trees();
        programs();
        steps();
        orders();
        rounds();
        certificates();
        figures();
        longUse();
        askRanges();
        System.out.println(wrong == 0 ? "each edge is as due" : wrong + " answers are not as due");
        if (wrong != 0) {
            System.exit(1);
        }
    }

    // ---- the document

    private static void readDocument() throws Exception {
        StringBuilder text = new StringBuilder();
        int promise = 0;
        for (String line : Files.readAllLines(Path.of("../shared/DOC.md"))) {
            text.append(line).append(' ');
            promise += line.startsWith("## Promise ") ? 1 : 0;
            if (promise > 0 && line.startsWith("- `") && line.matches(".*\\d+ to -?\\d+.*")) {
                ranges.add(promise + " " + line);
            }
        }
        document = text.toString().replaceAll("\\s+", " ");
    }

    private static void says(String sentence) {
        asked = sentence;
        if (!document.contains(sentence)) {
            fault("the document does not say so");
        }
    }

    private static void askRanges() {
        for (String line : ranges) {
            asked = line;
            if (!ranged.contains(line)) {
                fault("the range has no test");
            }
        }
        if (ranges.isEmpty()) {
            fault("the document has no ranges");
        }
    }

    // ---- helpers

    private static void fault(String text) {
        wrong++;
        System.out.println("\"" + asked + "\": " + text);
    }

    private static String told(Call call) {
        try {
            return "" + call.answer();
        } catch (RuntimeException e) {
            return e.getClass().getSimpleName();
        }
    }

    private static void due(Object want, Call call) {
        String got = told(call);
        if (!got.equals("" + want)) {
            fault("line " + line() + " answered " + got + ", due is " + want);
        }
    }

    private static int line() {
        int line = 0;
        for (StackTraceElement one : new Throwable().getStackTrace()) {
            line = one.getLineNumber();
            if (!Set.of("line", "due", "range", "refusedAt", "same").contains(one.getMethodName())) {
                return line;
            }
        }
        return line;
    }

    /** Both ends of a range of the document are answered, and what is beside them is refused. */
    private static void range(int promise, String words, int least, int most, Single call) {
        asked = promise + " - " + words;
        ranged.add(asked);
        if (!ranges.contains(asked)) {
            fault("the document has no such range");
        }
        for (int allowed : new int[] {least, least + 1, most - 1, most}) {
            String got = told(() -> call.on(some(), allowed));
            if (got.endsWith("Exception")) {
                fault(allowed + " answered " + got);
            }
        }
        refusedAt(ARGUMENT, call, least - 1, most + 1, LEAST, GREATEST);
    }

    private static void refusedAt(String want, Single call, int... odd) {
        for (int number : odd) {
            due(want, () -> call.on(some(), number));
        }
    }

    /** A house in which each call that needs something finds it at 0, and 1 and omega at 1 and 2. */
    private static Epsilonhall some() {
        Epsilonhall x = new Epsilonhall();
        x.number(0);
        x.number(1);
        x.term(1, 1);
        worm(x, 1, 0, 1);
        hydra(x, 0, 1, 1);
        x.bases(4);
        return x;
    }

    /** Makes an ordinal from its text, and returns its number. */
    private static int make(Epsilonhall x, String text) {
        int made = -1;
        for (String term : split(text)) {
            int next = makeTerm(x, term);
            made = made < 0 ? next : x.sum(made, next);
        }
        return made;
    }

    private static List<String> split(String text) {
        List<String> parts = new ArrayList<>();
        int depth = 0;
        int start = 0;
        for (int k = 0; k < text.length(); k++) {
            char sign = text.charAt(k);
            depth += sign == '(' ? 1 : sign == ')' ? -1 : 0;
            if (sign == '+' && depth == 0) {
                parts.add(text.substring(start, k));
                start = k + 1;
            }
        }
        parts.add(text.substring(start));
        return parts;
    }

    private static int makeTerm(Epsilonhall x, String term) {
        if (term.charAt(0) != 'w') {
            return x.number(Integer.parseInt(term));
        }
        int close = term.startsWith("w^(") ? term.lastIndexOf(')') : 0;
        String exponent = close > 0 ? term.substring(3, close) : "1";
        int star = term.indexOf('*', close);
        return x.term(make(x, exponent), star < 0 ? 1 : Integer.parseInt(term.substring(star + 1)));
    }

    private static String text(Epsilonhall x, int ordinal) {
        StringBuilder text = new StringBuilder();
        int length = x.length(ordinal);
        for (int k = 0; k < length; k++) {
            text.append(x.signAt(ordinal, k));
        }
        return text.toString();
    }

    /** An ordinal is what a text tells, by its signs and by comparing it. */
    private static void same(String want, Epsilonhall x, int ordinal) {
        due(want, () -> text(x, ordinal));
        due('=', () -> x.compare(make(x, want), ordinal));
    }

    private interface Maker {
        int on(Epsilonhall x, int one, int other);
    }

    /** What a call makes of two ordinals, and that it is like one that is made from its text. */
    private static void makes(String want, Maker call, String one, String other) {
        Epsilonhall x = new Epsilonhall();
        int first = make(x, one);
        int second = make(x, other);
        if (want.endsWith("Exception")) {
            due(want, () -> call.on(x, first, second));
            return;
        }
        due(x.ordinals(), () -> call.on(x, first, second));
        int made = x.ordinals() - 1;
        int twin = make(x, want);
        due(want, () -> text(x, made));
        due('=', () -> x.compare(made, twin));
        due(x.degree(twin), () -> x.degree(made));
        due(x.size(twin), () -> x.size(made));
    }

    /** Makes the sum of omega to the powers from the given one down to 1, of twice that size. */
    private static int powers(Epsilonhall x, int most) {
        int block = make(x, "w");
        int all = -1;
        int have = 0;
        for (int width = 1; width <= most; width *= 2) {
            if ((most & width) != 0) {
                int placed = have == 0 ? block : x.product(x.term(x.number(have), 1), block);
                all = all < 0 ? placed : x.sum(placed, all);
                have += width;
            }
            if (2 * width <= most) {
                block = x.sum(x.product(x.term(x.number(width), 1), block), block);
            }
        }
        return all;
    }

    private static int put(Epsilonhall x, int... numbers) {
        int has = 0;
        for (int number : numbers) {
            has = x.put(number);
        }
        return has;
    }

    private static int worm(Epsilonhall x, int... numbers) {
        put(x, numbers);
        return x.worm();
    }

    private static int hydra(Epsilonhall x, int... parents) {
        put(x, parents);
        return x.hydra();
    }

    private static String numbers(Epsilonhall x, int game) {
        StringBuilder text = new StringBuilder();
        for (int k = 0; k < 400; k++) {
            int index = k;
            String got = told(() -> x.at(game, index));
            if (got.equals(INDEX)) {
                break;
            }
            text.append(k > 0 ? " " : "").append(got.equals(NONE) ? "x" : got);
        }
        return text.toString();
    }

    // ---- ordinals: how many, and of what terms

    private static List<Adding> addings() {
        List<Adding> calls = new ArrayList<>();
        calls.add(x -> x.number(0));
        calls.add(x -> x.term(1, 1));
        calls.add(x -> x.sum(1, 2));
        calls.add(x -> x.product(1, 2));
        calls.add(x -> x.naturalSum(1, 2));
        calls.add(x -> x.naturalProduct(1, 2));
        calls.add(x -> x.takeOff(1, 2));
        calls.add(x -> x.row(2, 1));
        calls.add(x -> x.exponentOf(2, 0));
        calls.add(x -> x.ordinalOf(0));
        calls.add(x -> x.ordinalOf(1));
        calls.add(x -> x.ordinalOf(2));
        calls.add(x -> x.value());
        return calls;
    }

    private static void sixtyOrdinals() {
        says("At most 60 ordinals are numbered from 0");
        Epsilonhall none = new Epsilonhall();
        due(0, () -> none.ordinals());
        due(INDEX, () -> none.size(0));
        due(0, () -> none.number(5));
        due(1, () -> none.ordinals());
        says("Throws `IllegalStateException` if there are 60");
        for (Adding call : addings()) {
            Epsilonhall x = some();
            while (x.ordinals() < 59) {
                x.number(x.ordinals());
            }
            due(INDEX, () -> x.size(59));
            due(59, () -> call.on(x));
            due(60, () -> x.ordinals());
            String last = text(x, 59);
            for (Adding other : addings()) {
                due(STATE, () -> other.on(x));
            }
            due(60, () -> x.ordinals());
            due(last, () -> text(x, 59));
            due("58", () -> text(x, 58));
            due(INDEX, () -> x.size(60));
            due(INDEX, () -> x.compare(0, 60));
            due(INDEX, () -> x.compare(60, 0));
        }
    }

    private static void counts() {
        range(2, "`number`: the number, 0 to 999999", 0, 999999, (x, n) -> x.number(n));
        range(3, "`count`: the count, 1 to 999999", 1, 999999, (x, n) -> x.term(1, n));
        range(3, "`count`: the count, 1 to 999999", 1, 999999, (x, n) -> x.term(0, n));
        says("times a count from 1 to 999999");
        makes("w", (x, a, b) -> x.term(a, 1), "1", "0");
        makes("w*2", (x, a, b) -> x.term(a, 2), "1", "0");
        makes("w*999999", (x, a, b) -> x.term(a, 999999), "1", "0");
        makes("1", (x, a, b) -> x.term(a, 1), "0", "0");
        makes("999999", (x, a, b) -> x.term(a, 999999), "0", "0");
    }

    private static void nothingAtAll() {
        Epsilonhall x = new Epsilonhall();
        x.number(0);
        x.number(1);
        x.term(1, 1);
        says("0 has no terms");
        due(0, () -> x.terms(0));
        due(0, () -> x.size(0));
        due(INDEX, () -> x.countOf(0, 0));
        due(INDEX, () -> x.exponentOf(0, 0));
        says("a number is the one term with the exponent 0, and this count");
        due(1, () -> x.terms(1));
        due(1, () -> x.countOf(1, 0));
        due(3, () -> x.exponentOf(1, 0));
        due('=', () -> x.compare(3, 0));
        due(INDEX, () -> x.countOf(1, 1));
        says("omega that with the exponent 1 and the count 1");
        due(1, () -> x.terms(2));
        due(1, () -> x.countOf(2, 0));
        due(4, () -> x.exponentOf(2, 0));
        due('=', () -> x.compare(4, 1));
        says("0 as 0");
        due(1, () -> x.length(0));
        due('0', () -> x.signAt(0, 0));
        due(INDEX, () -> x.signAt(0, 1));
        says("for an exponent other than 1 ^ and this in brackets, and for a count above 1 * and this");
        String[] texts = {"1", "2", "9", "10", "999999", "w", "w*2", "w^(2)", "w^(2)*2", "w^(w)", "w^(w*2)", "w^(w+1)"};
        for (String one : texts) {
            makes(one, (y, a, b) -> y.sum(a, b), one, "0");
        }
    }

    private static void degrees() {
        says("The degree of 0 is 0, of another one 1 more than that of its first exponent");
        Epsilonhall x = new Epsilonhall();
        int made = x.number(0);
        for (int degree = 0; degree <= 6; degree++) {
            int last = made;
            due(degree, () -> x.degree(last));
            due(degree, () -> x.size(last));
            if (degree < 6) {
                made = x.term(made, 1);
            }
        }
        int six = made;
        says("An ordinal is too great with a degree above 6");
        due(UNSUPPORTED, () -> x.term(six, 1));
        due(UNSUPPORTED, () -> x.term(six, 999999));
        int more = x.sum(six, 1);
        due(UNSUPPORTED, () -> x.term(more, 1));
        due(6, () -> x.degree(more));
        due(6, () -> x.degree(x.product(six, six)));
        due(6, () -> x.degree(x.naturalProduct(six, more)));
        due(5, () -> x.degree(x.exponentOf(six, 0)));
        Epsilonhall y = new Epsilonhall();
        due(6, () -> y.degree(y.ordinalOf(worm(y, 5))));
        due(UNSUPPORTED, () -> y.ordinalOf(worm(y, 6)));
        due(UNSUPPORTED, () -> y.ordinalOf(worm(y, 9)));
        due(6, () -> y.degree(y.ordinalOf(hydra(y, 0, 1, 2, 3, 4, 5))));
        due(UNSUPPORTED, () -> y.ordinalOf(hydra(y, 0, 1, 2, 3, 4, 5, 6)));
        due(UNSUPPORTED, () -> y.ordinalOf(hydra(y, 0, 1, 2, 3, 4, 5, 6, 7, 8, 9, 10)));
        due(5, () -> y.degree(y.ordinalOf(y.bases(65536))));
        due(5, () -> y.degree(y.ordinalOf(y.bases(999999))));
    }

    // ---- sizes of 150 and 151

    private static void sizes() {
        says("a size above 150");
        Epsilonhall x = new Epsilonhall();
        int one = x.number(1);
        int widest = powers(x, 75);
        due(150, () -> x.size(widest));
        due(75, () -> x.terms(widest));
        due(UNSUPPORTED, () -> x.term(widest, 1));
        due(UNSUPPORTED, () -> x.sum(widest, one));
        due(UNSUPPORTED, () -> x.naturalSum(widest, one));
        due(UNSUPPORTED, () -> x.naturalSum(one, widest));
        due(150, () -> x.size(x.sum(one, widest)));
        due(150, () -> x.size(x.sum(widest, widest)));
        due(150, () -> x.size(x.naturalSum(widest, widest)));
        due(150, () -> x.size(x.takeOff(one, widest)));
        due(150, () -> x.size(x.product(widest, one)));
        due(150, () -> x.size(x.naturalProduct(one, widest)));
        Epsilonhall y = new Epsilonhall();
        int even = powers(y, 74);
        int odd = y.sum(even, y.number(1));
        due(149, () -> y.size(odd));
        due(149, () -> y.size(y.term(even, 1)));
        due(150, () -> y.size(y.term(odd, 999999)));
        due(149, () -> y.size(y.sum(even, y.number(9))));
        int next = make(y, "w+1");
        due(150, () -> y.size(y.product(even, next)));
        due(UNSUPPORTED, () -> y.product(odd, next));
        // Each second power, and the first: with those beside them all from 75 to 1, with 1 more the one for 0 as well.
        Epsilonhall z = new Epsilonhall();
        int second = z.naturalProduct(make(z, "w"), spread(z, 37));
        int all = z.sum(second, make(z, "w"));
        int both = make(z, "w+1");
        due(150, () -> z.size(z.naturalProduct(all, both)));
        due(150, () -> z.size(z.naturalProduct(both, all)));
        int beyond = z.sum(all, z.number(1));
        due(UNSUPPORTED, () -> z.naturalProduct(beyond, both));
        due(UNSUPPORTED, () -> z.naturalProduct(both, beyond));
    }

    /** Makes the sum of each second power of omega, as many as told, down to the first one. */
    private static int spread(Epsilonhall x, int many) {
        int made = -1;
        for (int bit = 32; bit > 0; bit /= 2) {
            int twice = made < 0 ? -1 : shifted(x, made, many / (2 * bit) * 2);
            made = made < 0 ? -1 : x.sum(twice, made);
            if ((many & bit) != 0) {
                int first = make(x, "w");
                made = made < 0 ? first : x.sum(shifted(x, made, 2), first);
            }
        }
        return made;
    }

    private static int shifted(Epsilonhall x, int ordinal, int by) {
        return x.naturalProduct(ordinal, x.term(x.number(by), 1));
    }

    private static void cutAll(Epsilonhall x, int game, int... knots) {
        for (int knot : knots) {
            x.cut(game, knot);
        }
    }

    private static void sizesOfHydras() {
        says("what a call comes to in the end is asked for that");
        Epsilonhall x = new Epsilonhall();
        int last = hydra(x, 0, 1, 2, 2, 4, 4, 4, 6, 8, 1, 2);
        cutAll(x, last, 7, 11, 13, 10, 227, 88, 136, 184, 23);
        due(150, () -> x.size(x.ordinalOf(last)));
        due(true, () -> x.falls(last));
        Epsilonhall y = new Epsilonhall();
        int first = hydra(y, 0, 1, 2, 2, 4, 4, 4, 6, 8, 2, 1);
        cutAll(y, first, 7, 10, 23, 11, 149, 51, 129, 74, 173, 9);
        int before = y.ordinalOf(first);
        due(true, () -> y.size(before) <= 150);
        y.cut(first, 40);
        due(UNSUPPORTED, () -> y.ordinalOf(first));
        due(1, () -> y.ordinals());
        due(true, () -> y.falls(first));
        due(260L, () -> y.measure(first));
    }

    private static void sizesOnTheWay() {
        says("or to an ordinal that is too great, is beyond reach");
        // The row for 1 of the last term, omega with the count 2, has a knot more, and that for 0 has as many.
        Epsilonhall x = new Epsilonhall();
        int fits = x.sum(x.sum(make(x, "w^(w)"), x.product(make(x, "w"), powers(x, 72))), make(x, "w*2"));
        due(149, () -> x.size(fits));
        due(150, () -> x.size(x.row(fits, 1)));
        due(75, () -> x.slow(fits, 1));
        due(2, () -> x.fast(fits, 1));
        Epsilonhall y = new Epsilonhall();
        int wide = y.sum(y.product(make(y, "w"), powers(y, 74)), make(y, "w*2"));
        due(150, () -> y.size(wide));
        due(150, () -> y.size(y.row(wide, 0)));
        due(0, () -> y.slow(wide, 0));
        due(0, () -> y.hardy(wide, 0));
        due(1, () -> y.fast(wide, 0));
        due(UNSUPPORTED, () -> y.row(wide, 1));
        due(UNSUPPORTED, () -> y.slow(wide, 1));
        due(UNSUPPORTED, () -> y.hardy(wide, 1));
        due(UNSUPPORTED, () -> y.fast(wide, 1));
        due(UNSUPPORTED, () -> y.stepsDown(wide, 1));
        sizesOnTheWayByZero();
    }

    private static void sizesOnTheWayByZero() {
        // The row for 0 of the last term has 1 behind what is left of it.
        Epsilonhall x = new Epsilonhall();
        int high = x.product(make(x, "w^(w)"), powers(x, 35));
        int fits = x.sum(x.sum(make(x, "w^(w*3)+w^(w*2)"), high), make(x, "w^(w)*2"));
        due(149, () -> x.size(fits));
        due(150, () -> x.size(x.row(fits, 0)));
        due(4, () -> x.slow(fits, 0));
        due(0, () -> x.fast(fits, 0));
        Epsilonhall y = new Epsilonhall();
        int higher = y.product(make(y, "w^(w)"), powers(y, 36));
        int wide = y.sum(y.sum(make(y, "w^(w*3)"), higher), make(y, "w^(w)*2"));
        due(150, () -> y.size(wide));
        due(UNSUPPORTED, () -> y.row(wide, 0));
        due(UNSUPPORTED, () -> y.slow(wide, 0));
        due(UNSUPPORTED, () -> y.fast(wide, 0));
        due(UNSUPPORTED, () -> y.hardy(wide, 0));
        due(UNSUPPORTED, () -> y.stepsDown(wide, 0));
    }

    // ---- counts of 999999 and 1000000

    private static void countsTooGreat() {
        says("a count above 999999");
        Maker sum = (x, a, b) -> x.sum(a, b);
        Maker natural = (x, a, b) -> x.naturalSum(a, b);
        for (Maker call : List.of(sum, natural)) {
            makes("999999", call, "999998", "1");
            makes("999999", call, "1", "999998");
            makes("999999", call, "999999", "0");
            makes("999999", call, "0", "999999");
            makes(UNSUPPORTED, call, "999999", "1");
            makes(UNSUPPORTED, call, "1", "999999");
            makes(UNSUPPORTED, call, "999999", "999999");
            makes("w^(w)*999999+1", call, "w^(w)*999998", "w^(w)+1");
            makes(UNSUPPORTED, call, "w^(w)*999999", "w^(w)+1");
        }
        makes("w*999999", sum, "999999", "w*999999");
        makes("w*999999+999999", natural, "999999", "w*999999");
        Maker product = (x, a, b) -> x.product(a, b);
        Maker both = (x, a, b) -> x.naturalProduct(a, b);
        for (Maker call : List.of(product, both)) {
            makes("999999", call, "333333", "3");
            makes("999999", call, "1", "999999");
            makes("999999", call, "999999", "1");
            makes(UNSUPPORTED, call, "500000", "2");
            makes(UNSUPPORTED, call, "2", "500000");
            makes(UNSUPPORTED, call, "1000", "1000");
            makes(UNSUPPORTED, call, "999999", "999999");
            makes("w*999999", call, "w*333333", "3");
            makes(UNSUPPORTED, call, "w*500000", "2");
        }
        makes("w", product, "999999", "w");
        makes("w^(2)*999999", product, "w*999999", "w*999999");
        makes(UNSUPPORTED, both, "w*999999", "w*999999");
        makes("w*999999", both, "999999", "w");
        // Counts of one exponent come from several terms.
        makes("w^(2)*499999+w*999999+500000", both, "w*499999+500000", "w+1");
        makes(UNSUPPORTED, both, "w*500000+500000", "w+1");
        Epsilonhall x = new Epsilonhall();
        for (int k = 0; k < 4; k++) {
            x.setCounter(k, 999999);
        }
        same("w^(3)*999999+w^(2)*999999+w*999999+999999", x, x.value());
    }

    // ---- reckoning

    private static void comparisons() {
        says("if one is used up, it is the lesser one, if the other one is not");
        Epsilonhall x = new Epsilonhall();
        String[] rising = {"0", "1", "2", "999999", "w", "w+1", "w*2", "w^(2)", "w^(2)+1", "w^(2)+w", "w^(2)*2", "w^(3)",
            "w^(w)", "w^(w)+w", "w^(w+1)", "w^(w*2)", TOWER};
        for (String one : rising) {
            make(x, one);
        }
        Epsilonhall y = new Epsilonhall();
        List<Integer> made = new ArrayList<>();
        for (int k = 0; k < 12; k++) {
            made.add(make(y, rising[k]));
        }
        for (int k = 0; k < made.size(); k++) {
            for (int j = 0; j < made.size(); j++) {
                int one = made.get(k);
                int other = made.get(j);
                due(k < j ? '<' : k > j ? '>' : '=', () -> y.compare(one, other));
            }
        }
        Epsilonhall z = new Epsilonhall();
        due('=', () -> z.compare(z.number(0), z.number(0)));
        due('<', () -> z.compare(0, z.number(1)));
        due('>', () -> z.compare(2, 1));
    }

    private static void reckoningWithZero() {
        String[] all = {"0", "1", "999999", "w", "w^(2)*3+w+7", TOWER};
        says("A sum, of a first ordinal and a second one that is not 0");
        for (String one : all) {
            makes(one, (x, a, b) -> x.sum(a, b), "0", one);
            makes(one, (x, a, b) -> x.sum(a, b), one, "0");
        }
        says("A product: 0 if one of both is 0");
        for (String one : all) {
            makes("0", (x, a, b) -> x.product(a, b), "0", one);
            makes("0", (x, a, b) -> x.product(a, b), one, "0");
            makes(one, (x, a, b) -> x.product(a, b), "1", one);
            makes(one, (x, a, b) -> x.product(a, b), one, "1");
        }
        says("The natural sum has the terms of both");
        for (String one : all) {
            makes(one, (x, a, b) -> x.naturalSum(a, b), "0", one);
            makes(one, (x, a, b) -> x.naturalSum(a, b), one, "0");
        }
        says("the natural product is the natural sum, over all terms of the one and the other");
        for (String one : all) {
            makes("0", (x, a, b) -> x.naturalProduct(a, b), "0", one);
            makes("0", (x, a, b) -> x.naturalProduct(a, b), one, "0");
            makes(one, (x, a, b) -> x.naturalProduct(a, b), "1", one);
            makes(one, (x, a, b) -> x.naturalProduct(a, b), one, "1");
        }
        says("- `other`: the number of another ordinal, or the same one");
        makes("w*4+3", (x, a, b) -> x.sum(a, a), "w*2+3", "0");
        makes("w^(2)*2+w*6+3", (x, a, b) -> x.product(a, a), "w*2+3", "0");
        makes("w*4+6", (x, a, b) -> x.naturalSum(a, a), "w*2+3", "0");
        makes("w^(2)*4+w*12+9", (x, a, b) -> x.naturalProduct(a, a), "w*2+3", "0");
        makes("0", (x, a, b) -> x.takeOff(a, a), "w*2+3", "0");
        Epsilonhall x = some();
        due('=', () -> x.compare(2, 2));
    }

    private static void takingOff() {
        says("Throws `UnsupportedOperationException` if the second one is less");
        Maker off = (x, a, b) -> x.takeOff(a, b);
        String[] rising = {"0", "1", "2", "999999", "w", "w+1", "w*2", "w^(2)", "w^(w)", TOWER};
        for (int k = 0; k < rising.length; k++) {
            makes("0", off, rising[k], rising[k]);
            makes(rising[k], off, "0", rising[k]);
            for (int j = 0; j < k; j++) {
                makes(UNSUPPORTED, off, rising[k], rising[j]);
            }
        }
        says("as the second one of a sum with the first, gives it");
        makes("1", off, "1", "2");
        makes("1", off, "w", "w+1");
        makes("w", off, "w", "w*2");
        makes("w", off, "w+1", "w*2");
        makes("w", off, "999999", "w");
        makes("w^(2)", off, "w*999999+999999", "w^(2)");
        makes("w+5", off, "w^(2)+w+4", "w^(2)+w*2+5");
    }

    // ---- rows

    private static void limits() {
        says("An ordinal other than 0 is a limit if its last exponent is not 0");
        String[] limits = {"w", "w*999999", "w^(2)", "w^(2)+w", "w^(w)", TOWER};
        String[] others = {"0", "1", "999999", "w+1", "w^(2)+w+1", TOWER + "+1"};
        for (String one : limits) {
            Epsilonhall x = new Epsilonhall();
            due(true, () -> x.isLimit(make(x, one)));
        }
        for (String one : others) {
            Epsilonhall x = new Epsilonhall();
            due(false, () -> x.isLimit(make(x, one)));
        }
    }

    private static void row(String want, String of, int n) {
        makes(want, (x, a, b) -> x.row(a, n), of, "0");
    }

    private static void rowsOfOrdinals() {
        says("What its row tells for a number n is: of 0, 0;");
        row("0", "0", 0);
        row("0", "0", 20);
        says("of one that is no limit, this with the last count less by 1");
        row("0", "1", 0);
        row("0", "1", 20);
        row("1", "2", 20);
        row("999998", "999999", 0);
        row("w", "w+1", 20);
        row("w+1", "w+2", 0);
        says("n times omega to the power of what that exponent's row tells");
        row("0", "w", 0);
        row("1", "w", 1);
        row("20", "w", 20);
        row("w", "w^(2)", 1);
        row("w*20", "w^(2)", 20);
        row("w^(w)*20", "w^(w+1)", 20);
        says("if it is a limit, omega to the power of what its row tells for n");
        row("1", "w^(w)", 0);
        row("w", "w^(w)", 1);
        row("w^(20)", "w^(w)", 20);
        row("w", "w^(w^(w))", 0);
        row("w^(w^(w^(w^(20))))", TOWER, 20);
        row("w^(w^(w))", TOWER, 0);
        says("A term of which the count is 0 is gone");
        row("0", "w^(3)", 0);
        row("w^(3)", "w^(3)+w", 0);
        row("w^(3)*999998", "w^(3)*999999", 0);
        row("w^(w)+1", "w^(w)*2", 0);
    }

    private static void rangesOfRows() {
        range(9, "`n`: the number, 0 to 20", 0, 20, (x, n) -> x.row(2, n));
        range(9, "`n`: the number, 0 to 20", 0, 20, (x, n) -> x.row(0, n));
        range(20, "`n`: the number n, 0 to 100", 0, 100, (x, n) -> x.slow(2, n));
        range(21, "`n`: the number n, 0 to 100", 0, 100, (x, n) -> x.hardy(2, n));
        range(22, "`n`: the number n, 0 to 100", 0, 100, (x, n) -> x.fast(1, n));
        range(23, "`n`: the number, 0 to 20", 0, 20, (x, n) -> x.stepsDown(2, n));
    }

    // ---- functions

    private static void tells(int want, Maker call, String ordinal) {
        Epsilonhall x = new Epsilonhall();
        int made = make(x, ordinal);
        due(want, () -> call.on(x, made, 0));
    }

    private static void unreached(Maker call, String ordinal) {
        Epsilonhall x = new Epsilonhall();
        int made = make(x, ordinal);
        int before = x.ordinals();
        due(UNSUPPORTED, () -> call.on(x, made, 0));
        due(before, () -> x.ordinals());
    }

    private static void slowOnes() {
        says("The slow one at n: 0 for 0;");
        tells(0, (x, a, b) -> x.slow(a, 0), "0");
        tells(0, (x, a, b) -> x.slow(a, 100), "0");
        says("for an ordinal that is no limit 1 more than that of what its row tells");
        tells(1, (x, a, b) -> x.slow(a, 0), "1");
        tells(1, (x, a, b) -> x.slow(a, 100), "1");
        tells(101, (x, a, b) -> x.slow(a, 100), "w+1");
        says("for a limit that of what its row tells for n");
        tells(0, (x, a, b) -> x.slow(a, 0), "w");
        tells(1, (x, a, b) -> x.slow(a, 1), "w");
        tells(100, (x, a, b) -> x.slow(a, 100), "w");
        tells(10000, (x, a, b) -> x.slow(a, 100), "w^(2)");
        tells(0, (x, a, b) -> x.slow(a, 0), "w^(2)*9+w*9");
        tells(2, (x, a, b) -> x.slow(a, 0), "w^(w)*2");
    }

    private static void hardyOnes() {
        says("The Hardy one at n: n for 0;");
        tells(0, (x, a, b) -> x.hardy(a, 0), "0");
        tells(100, (x, a, b) -> x.hardy(a, 100), "0");
        says("at n plus 1 for one that is no limit, at n for a limit");
        tells(1, (x, a, b) -> x.hardy(a, 0), "1");
        tells(101, (x, a, b) -> x.hardy(a, 100), "1");
        tells(0, (x, a, b) -> x.hardy(a, 0), "w");
        tells(2, (x, a, b) -> x.hardy(a, 1), "w");
        tells(200, (x, a, b) -> x.hardy(a, 100), "w");
        tells(202, (x, a, b) -> x.hardy(a, 100), "w+1");
        tells(0, (x, a, b) -> x.hardy(a, 0), "w^(2)*9+w*9");
        tells(1, (x, a, b) -> x.hardy(a, 0), "w^(w)");
    }

    private static void fastOnes() {
        says("The fast one at n: n plus 1 for 0;");
        tells(1, (x, a, b) -> x.fast(a, 0), "0");
        tells(101, (x, a, b) -> x.fast(a, 100), "0");
        says("n times, one behind another, from n on, that of what its row tells");
        tells(0, (x, a, b) -> x.fast(a, 0), "1");
        tells(2, (x, a, b) -> x.fast(a, 1), "1");
        tells(200, (x, a, b) -> x.fast(a, 100), "1");
        tells(0, (x, a, b) -> x.fast(a, 0), "999999");
        tells(0, (x, a, b) -> x.fast(a, 0), TOWER + "+1");
        tells(2, (x, a, b) -> x.fast(a, 1), "w^(w)+w+2");
        says("for a limit that of what its row tells for n, at n");
        tells(1, (x, a, b) -> x.fast(a, 0), "w");
        tells(2, (x, a, b) -> x.fast(a, 1), "w");
        tells(8, (x, a, b) -> x.fast(a, 2), "w");
        tells(0, (x, a, b) -> x.fast(a, 0), "w^(w)*2");
    }

    private static void usesOnes() {
        says("what needs more than 20000");
        // The sentence for 0 is a use too.
        Maker slow = (x, a, b) -> x.slow(a, 0);
        tells(19999, slow, "19999");
        unreached(slow, "20000");
        tells(19998, slow, "w+19998");
        unreached(slow, "w+19999");
        tells(19997, slow, "w*2+19997");
        unreached(slow, "w*2+19998");
        Maker hardy = (x, a, b) -> x.hardy(a, 100);
        tells(20099, hardy, "19999");
        unreached(hardy, "20000");
        Maker small = (x, a, b) -> x.hardy(a, 0);
        tells(19999, small, "19999");
        unreached(small, "20000");
        // Behind omega 1 use for each of the last count, 1 for omega, as many as n is then, and 1 for 0.
        tells(2 * 9999, small, "w+9999");
        unreached((x, a, b) -> x.hardy(a, 1), "w+9999");
        tells(2 * 9999, (x, a, b) -> x.hardy(a, 1), "w+9998");
        unreached(small, "w+10000");
        Maker fast = (x, a, b) -> x.fast(a, 1);
        tells(2, fast, "19999");
        unreached(fast, "20000");
        tells(2, fast, "w+19997");
        unreached(fast, "w+19998");
        // For 1 at n: 1 use, and n for 0; for 2 at 2: 1 use, that of 1 at 2 and at 4.
        Maker two = (x, a, b) -> x.fast(a, 2);
        tells(8, two, "2");
        tells(2048, two, "3");
        unreached(two, "4");
        tells(10240, (x, a, b) -> x.fast(a, 10), "2");
        unreached((x, a, b) -> x.fast(a, 11), "2");
        unreached(slow, "999999");
        unreached(hardy, "999999");
        unreached(fast, "999999");
        unreached(hardy, TOWER);
    }

    private static void stepsDownward() {
        says("which is 1 more for each next step, to 0");
        tells(0, (x, a, b) -> x.stepsDown(a, 0), "0");
        tells(0, (x, a, b) -> x.stepsDown(a, 20), "0");
        tells(1, (x, a, b) -> x.stepsDown(a, 20), "1");
        tells(1, (x, a, b) -> x.stepsDown(a, 0), "w");
        tells(2, (x, a, b) -> x.stepsDown(a, 1), "w");
        tells(21, (x, a, b) -> x.stepsDown(a, 20), "w");
        tells(3, (x, a, b) -> x.stepsDown(a, 0), "w*2");
        says("Returns how many, at most 20000.");
        for (int n : new int[] {0, 20}) {
            tells(20000, (x, a, b) -> x.stepsDown(a, n), "20000");
            unreached((x, a, b) -> x.stepsDown(a, n), "20001");
            unreached((x, a, b) -> x.stepsDown(a, n), "999999");
        }
        // k steps down to omega, one to the number k + n, and as many to 0.
        tells(19999, (x, a, b) -> x.stepsDown(a, 0), "w+9999");
        unreached((x, a, b) -> x.stepsDown(a, 0), "w+10000");
        tells(20000, (x, a, b) -> x.stepsDown(a, 1), "w+9999");
        unreached((x, a, b) -> x.stepsDown(a, 2), "w+9999");
    }

    // ---- the buffer, worms and hydras

    private static void buffer() {
        range(24, "`number`: a number, 0 to 11", 0, 11, (x, n) -> x.put(n));
        says("Throws `IllegalStateException` if it has 12");
        Epsilonhall x = new Epsilonhall();
        for (int k = 1; k <= 12; k++) {
            int has = k;
            due(has, () -> x.put(has % 10));
        }
        due(STATE, () -> x.put(0));
        due(STATE, () -> x.put(11));
        due(ARGUMENT, () -> x.put(12));
        due(ARGUMENT, () -> x.put(-1));
        due(0, () -> x.worm());
        due("1 2 3 4 5 6 7 8 9 0 1 2", () -> numbers(x, 0));
        says("Adds a worm by the buffer, which is empty then.");
        due(ARGUMENT, () -> x.worm());
        due(1, () -> x.put(0));
        says("Adds a hydra by the buffer, which is empty then");
        due(1, () -> x.hydra());
        due(ARGUMENT, () -> x.worm());
        due(2, () -> x.hydra());
        due(1, () -> x.put(3));
        due(3, () -> x.bases(2));
        due(2, () -> x.put(4));
    }

    private static void worms() {
        says("A worm is a row of 1 to 12 numbers from 0 to 9");
        Epsilonhall x = new Epsilonhall();
        due(ARGUMENT, () -> x.worm());
        due(0, () -> worm(x, 0));
        due(1, () -> worm(x, 9));
        due(2, () -> worm(x, 9, 9, 9, 9, 9, 9, 9, 9, 9, 9, 9, 9));
        due(1L, () -> x.measure(1));
        due(12L, () -> x.measure(2));
        says("Throws `IllegalArgumentException` if it is empty, or a number is above 9");
        for (int odd : new int[] {10, 11}) {
            for (int place = 0; place < 12; place++) {
                Epsilonhall y = new Epsilonhall();
                for (int k = 0; k < 12; k++) {
                    y.put(k == place ? odd : 9);
                }
                due(ARGUMENT, () -> y.worm());
                due(STATE, () -> y.put(0));
                due(INDEX, () -> y.kindOf(0));
            }
        }
    }

    private static void moved(String want, int... numbers) {
        Epsilonhall x = new Epsilonhall();
        int game = worm(x, numbers);
        due(want.isEmpty(), () -> x.move(game));
        due(want, () -> numbers(x, game));
    }

    private static void wormMoves() {
        says("a head of 0 is cut off");
        moved("", 0);
        moved("0", 0, 0);
        moved("9", 9, 0);
        says("no number but the head is less than the head was");
        moved("0 0", 1);
        moved("8 8", 9);
        moved("1 0 1 0", 1, 1);
        moved("0 0 0", 0, 1);
        moved("1 1 1", 1, 2);
        moved("2 0 2 0", 2, 1);
        moved("0 2 1 0 2 1 0", 0, 2, 1, 1);
        says("It ends without numbers.");
        Epsilonhall x = new Epsilonhall();
        int game = worm(x, 0);
        due(false, () -> x.isOver(game));
        due(true, () -> x.move(game));
        due(true, () -> x.isOver(game));
        due(0L, () -> x.measure(game));
        due(1, () -> x.moves(game));
        due(INDEX, () -> x.at(game, 0));
        due(UNSUPPORTED, () -> x.move(game));
        due(0, () -> x.play(game, 1));
        due(1, () -> x.moves(game));
    }

    private static void weighs(String want, int... numbers) {
        Epsilonhall x = new Epsilonhall();
        int game = worm(x, numbers);
        due(0, () -> x.ordinalOf(game));
        same(want, x, 0);
    }

    private static void wormOrdinals() {
        says("it is parted at its 0s into rows, perhaps empty, one more than it has 0s");
        weighs("1", 0);
        weighs("2", 0, 0);
        weighs("12", 0, 0, 0, 0, 0, 0, 0, 0, 0, 0, 0, 0);
        weighs("w+1", 1, 0);
        weighs("w", 0, 1);
        says("and it is a worm then, if it is not empty, or of the ordinal 0");
        weighs("w", 1);
        weighs("w^(w)", 2);
        weighs(TOWER, 5);
        Epsilonhall x = new Epsilonhall();
        int game = worm(x, 0);
        x.move(game);
        due(0, () -> x.ordinalOf(game));
        same("0", x, 0);
        says("1 is taken off the sum, from the first row to the last one, of omega to the power of these ordinals");
        // What is less is gone in the sum, also if it stands between two that are alike.
        weighs("w*2", 1, 0, 1);
        weighs("w*2", 1, 0, 0, 1);
        weighs("w*2+1", 1, 0, 0, 1, 0);
        weighs("w^(w)*2", 2, 0, 1, 0, 2);
        weighs("w^(w)", 0, 1, 0, 0, 2);
        weighs("w^(w)*2", 2, 0, 1, 0, 0, 1, 0, 2);
        weighs("w^(w*2)", 2, 1, 1, 2);
        says("and, for the ordinal of a worm, also that of each part, omega to its power, and each sum on the way");
        Epsilonhall y = new Epsilonhall();
        int great = worm(y, 5, 0, 6);
        due(UNSUPPORTED, () -> y.ordinalOf(great));
        int first = worm(y, 6, 0, 5);
        due(UNSUPPORTED, () -> y.ordinalOf(first));
        int fits = worm(y, 5, 0, 5);
        due(0, () -> y.ordinalOf(fits));
    }

    private static void hydras() {
        says("A hydra is a tree of 1 to 12 knots, numbered from 0, the root");
        Epsilonhall x = new Epsilonhall();
        due(0, () -> x.hydra());
        due(1L, () -> x.measure(0));
        due(1, () -> hydra(x, 0));
        due(2L, () -> x.measure(1));
        due(2, () -> hydra(x, 0, 0, 0, 0, 0, 0, 0, 0, 0, 0, 0));
        due(12L, () -> x.measure(2));
        due(3, () -> hydra(x, 0, 1, 2, 3, 4, 5, 6, 7, 8, 9, 10));
        due("-1 0 1 2 3 4 5 6 7 8 9 10", () -> numbers(x, 3));
        says("Throws `IllegalArgumentException` if a number is not less than the knot, or there are 12");
        due(ARGUMENT, () -> hydra(x, 0, 0, 0, 0, 0, 0, 0, 0, 0, 0, 0, 0));
        due(STATE, () -> x.put(0));
        due(4, () -> x.worm());
        for (int place = 0; place < 11; place++) {
            Epsilonhall y = new Epsilonhall();
            for (int k = 0; k < 11; k++) {
                y.put(k == place ? k + 1 : k);
            }
            due(ARGUMENT, () -> y.hydra());
            due(12, () -> y.put(0));
            due(INDEX, () -> y.kindOf(0));
        }
        says("or on which knot a knot of a hydra hangs, -1 for the root");
        due(-1, () -> x.at(0, 0));
        due(0, () -> x.at(1, 1));
        due(INDEX, () -> x.at(0, 1));
        due(10, () -> x.at(3, 11));
        due(INDEX, () -> x.at(3, 12));
    }

    private static void hydraMoves() {
        says("if it did not hang on the root, k copies of what it hung on");
        Epsilonhall x = new Epsilonhall();
        int game = hydra(x, 0, 0, 2);
        due(false, () -> x.cut(game, 1));
        due("-1 x 0 2", () -> numbers(x, game));
        due(false, () -> x.cut(game, 3));
        due("-1 x 0 x 0 0", () -> numbers(x, game));
        due(2, () -> x.moves(game));
        says("Throws `NoSuchElementException` if the knot is gone");
        due(NONE, () -> x.at(game, 1));
        due(NONE, () -> x.at(game, 3));
        due(0, () -> x.at(game, 5));
        due(INDEX, () -> x.at(game, 6));
        says("Throws `UnsupportedOperationException` if it is no head, is gone, or the move is refused");
        due(UNSUPPORTED, () -> x.cut(game, 0));
        due(UNSUPPORTED, () -> x.cut(game, 1));
        due(UNSUPPORTED, () -> x.cut(game, 3));
        says("Throws `IndexOutOfBoundsException` if there is no such game, it is no hydra, or there was no such knot");
        for (int odd : new int[] {-1, 6, LEAST, GREATEST}) {
            due(INDEX, () -> x.cut(game, odd));
        }
        says("It ends with the root alone.");
        due(false, () -> x.cut(game, 5));
        due(false, () -> x.isOver(game));
        due(false, () -> x.move(game));
        due(true, () -> x.move(game));
        due("-1 x x x x x", () -> numbers(x, game));
        due(true, () -> x.isOver(game));
        due(1L, () -> x.measure(game));
        due(UNSUPPORTED, () -> x.move(game));
        due(UNSUPPORTED, () -> x.cut(game, 0));
        due(UNSUPPORTED, () -> x.cut(game, 5));
        due(INDEX, () -> x.cut(game, 6));
        due(0, () -> x.play(game, 200));
        due(5, () -> x.moves(game));
        due(0, () -> x.ordinalOf(game));
        same("0", x, 0);
    }

    private static void bases() {
        range(27, "`number`: the number, 0 to 999999", 0, 999999, (x, n) -> x.bases(n));
        says("It ends with 0.");
        Epsilonhall x = new Epsilonhall();
        x.bases(0);
        x.bases(1);
        x.bases(2);
        due(true, () -> x.isOver(0));
        due(UNSUPPORTED, () -> x.move(0));
        due(0, () -> x.play(0, 200));
        due(0, () -> x.moves(0));
        due(false, () -> x.isOver(1));
        due(true, () -> x.move(1));
        due(UNSUPPORTED, () -> x.move(1));
        due(3, () -> x.play(2, 200));
        due(true, () -> x.isOver(2));
        due(0L, () -> x.measure(2));
        says("Its ordinal is that with omega for each base.");
        due(0, () -> x.ordinalOf(0));
        same("0", x, 0);
        Epsilonhall y = new Epsilonhall();
        due(0, () -> y.ordinalOf(y.bases(1)));
        same("1", y, 0);
        int two = y.bases(2);
        int made = y.ordinalOf(two);
        same("w", y, made);
        y.move(two);
        int later = y.ordinalOf(two);
        same("2", y, later);
        int great = y.ordinalOf(y.bases(65536));
        same("w^(w^(w^(w)))", y, great);
        Epsilonhall z = new Epsilonhall();
        due(0, () -> z.ordinalOf(z.bases(5)));
        same("w^(w)+1", z, 0);
    }

    // ---- games

    private static void eightGames() {
        says("At most 8 games are numbered from 0, of these three kinds.");
        List<Adding> calls = new ArrayList<>();
        calls.add(x -> x.worm());
        calls.add(x -> x.hydra());
        calls.add(x -> x.bases(3));
        for (Adding call : calls) {
            Epsilonhall x = new Epsilonhall();
            due(INDEX, () -> x.kindOf(0));
            for (int k = 0; k < 7; k++) {
                int next = k;
                due(next, () -> x.bases(next));
            }
            put(x, 0);
            due(INDEX, () -> x.kindOf(7));
            due(7, () -> call.on(x));
            due(true, () -> x.moves(7) == 0 && !x.isOver(7));
            put(x, 0);
            int has = x.put(0);
            for (Adding other : calls) {
                due(STATE, () -> other.on(x));
            }
            due(INDEX, () -> x.kindOf(8));
            due(has + 1, () -> x.put(11));
            due(6L, () -> x.measure(6));
        }
    }

    private static void tooGreatGames() {
        says("A worm longer than 300");
        Epsilonhall x = new Epsilonhall();
        // From 60 to 300 numbers.
        int last = worm(x, 3, 4, 4);
        due(3, () -> x.play(last, 3));
        due(60L, () -> x.measure(last));
        due(false, () -> x.move(last));
        due(300L, () -> x.measure(last));
        due(0, () -> x.at(last, 299));
        due(INDEX, () -> x.at(last, 300));
        due(4, () -> x.moves(last));
        // The head is 0 then.
        due(false, () -> x.move(last));
        due(299L, () -> x.measure(last));
        due(INDEX, () -> x.at(last, 299));
        says("a move that would come to that is refused");
        // From 61 to 301, and from 62 to 302.
        refusedWorm(61, 0, 4, 5, 5);
        refusedWorm(62, 1, 1, 4, 5, 5);
    }

    private static void refusedWorm(long length, int... numbers) {
        Epsilonhall x = new Epsilonhall();
        int game = worm(x, numbers);
        due(3, () -> x.play(game, 200));
        due(length, () -> x.measure(game));
        String before = numbers(x, game);
        due(UNSUPPORTED, () -> x.move(game));
        due(0, () -> x.play(game, 1));
        due(before, () -> numbers(x, game));
        due(3, () -> x.moves(game));
        due(false, () -> x.isOver(game));
        due(true, () -> x.falls(game));
    }

    private static void hydrasTooGreat() {
        says("a hydra for which more than 300 numbers were given");
        Epsilonhall x = new Epsilonhall();
        int last = hydra(x, 0, 1, 2, 2, 0, 1);
        due(9, () -> x.play(last, 9));
        due(true, () -> told(() -> x.at(last, 299)).equals(INDEX));
        due(false, () -> x.move(last));
        due(false, () -> told(() -> x.at(last, 299)).equals(INDEX));
        due(INDEX, () -> x.at(last, 300));
        due(10, () -> x.moves(last));
        refusedHydra(7, 301, 0, 1, 1, 2, 4);
        refusedHydra(7, 302, 0, 1, 2, 2, 4, 5);
        // A head on the root has no copies, and is cut with all 300 numbers given.
        Epsilonhall y = new Epsilonhall();
        int full = hydra(y, 0, 1, 0, 0, 1, 1);
        due(35, () -> y.play(full, 35));
        due(INDEX, () -> y.at(full, 300));
        due(false, () -> told(() -> y.at(full, 299)).equals(INDEX));
        long before = y.measure(full);
        int head = headOnRoot(y, full);
        due(false, () -> y.cut(full, head));
        due(before - 1, () -> y.measure(full));
        due(36, () -> y.moves(full));
        due(NONE, () -> y.at(full, head));
        due(INDEX, () -> y.at(full, 300));
    }

    private static int headOnRoot(Epsilonhall x, int game) {
        String[] parents = numbers(x, game).split(" ");
        List<String> all = List.of(parents);
        for (int k = 1; k < parents.length; k++) {
            if (parents[k].equals("0") && !all.contains("" + k)) {
                return k;
            }
        }
        return -1;
    }

    private static void refusedHydra(int moves, int would, int... parents) {
        Epsilonhall x = new Epsilonhall();
        int game = hydra(x, parents);
        due(moves, () -> x.play(game, 200));
        String before = numbers(x, game);
        due(would, () -> wouldGive(before, moves + 1));
        due(UNSUPPORTED, () -> x.move(game));
        due(0, () -> x.play(game, 200));
        due(moves, () -> x.moves(game));
        due(before, () -> numbers(x, game));
        due(false, () -> x.isOver(game));
        due(true, () -> x.falls(game));
    }

    /** How many numbers would be given after the move that cuts the head with the lowest number. */
    private static int wouldGive(String numbers, int copies) {
        String[] parents = numbers.split(" ");
        List<String> all = List.of(parents);
        int head = 1;
        while (parents[head].equals("x") || all.contains("" + head)) {
            head++;
        }
        Set<String> branch = new TreeSet<>(Set.of(parents[head]));
        for (int k = 1; k < parents.length; k++) {
            if (k != head && branch.contains(parents[k])) {
                branch.add("" + k);
            }
        }
        return parents.length + copies * branch.size();
    }

    private static void basesTooGreat() {
        says("and a number above 1000000000000 are too great");
        Epsilonhall x = new Epsilonhall();
        // The greatest number that any row comes to, and the least one that is refused, 1003967737692.
        int six = x.bases(6);
        int seven = x.bases(7);
        due(179, () -> x.play(six, 200));
        due(976717452811L, () -> x.measure(six));
        due(37, () -> x.play(seven, 200));
        due(985896442659L, () -> x.measure(seven));
        for (int game : new int[] {six, seven}) {
            due(UNSUPPORTED, () -> x.move(game));
            due(0, () -> x.play(game, 200));
            due(false, () -> x.isOver(game));
            due(true, () -> x.falls(game));
        }
        due(179, () -> x.moves(six));
        due(976717452811L, () -> x.measure(six));
        // 15 is the last one that can move, to 3 to the 13th and so on; 16 would come to 3 to the 27th.
        int fifteen = x.bases(15);
        due(8, () -> x.play(fifteen, 200));
        due(100077777775L, () -> x.measure(fifteen));
        int sixteen = x.bases(16);
        due(UNSUPPORTED, () -> x.move(sixteen));
        int most = x.bases(999999);
        due(UNSUPPORTED, () -> x.move(most));
        due(999999L, () -> x.measure(most));
        due(0, () -> x.moves(most));
    }

    private static void indexes() {
        says("Throws `IndexOutOfBoundsException` if there is no such game, index or knot, or it is a row of bases");
        Epsilonhall x = new Epsilonhall();
        worm(x, 3, 4);
        hydra(x, 0, 1);
        x.bases(5);
        x.bases(0);
        due(3, () -> x.at(0, 0));
        due(4, () -> x.at(0, 1));
        due(1, () -> x.at(1, 2));
        for (int odd : new int[] {-1, 3, LEAST, GREATEST}) {
            due(INDEX, () -> x.at(0, odd));
            due(INDEX, () -> x.at(1, odd));
            due(INDEX, () -> x.at(2, odd));
        }
        due(INDEX, () -> x.at(0, 2));
        due(INDEX, () -> x.at(2, 0));
        due(INDEX, () -> x.at(3, 0));
        due(INDEX, () -> x.at(4, 0));
        due(INDEX, () -> x.at(-1, 0));
        says("- `term`: the number of the term, from 0");
        int both = make(x, "w*3+5");
        due(3, () -> x.countOf(both, 0));
        due(5, () -> x.countOf(both, 1));
        due(x.ordinals(), () -> x.exponentOf(both, 0));
        due(x.ordinals(), () -> x.exponentOf(both, 1));
        for (int odd : new int[] {-1, 2, LEAST, GREATEST}) {
            due(INDEX, () -> x.countOf(both, odd));
            due(INDEX, () -> x.exponentOf(both, odd));
        }
        makes("1", (y, a, b) -> y.exponentOf(a, 0), "w*3+5", "0");
        makes("0", (y, a, b) -> y.exponentOf(a, 1), "w*3+5", "0");
        makes("w^(w^(w^(w)))", (y, a, b) -> y.exponentOf(a, 0), TOWER, "0");
        says("- `index`: the index of the sign, from 0");
        due('w', () -> x.signAt(both, 0));
        due('5', () -> x.signAt(both, 4));
        for (int odd : new int[] {-1, 5, LEAST, GREATEST}) {
            due(INDEX, () -> x.signAt(both, odd));
        }
    }

    private static void movesAndPlays() {
        range(35, "`moves`: how many, 1 to 200", 1, 200, (x, n) -> x.play(2, n));
        range(35, "`moves`: how many, 1 to 200", 1, 200, (x, n) -> x.play(0, n));
        says("Makes moves till the game ends or one is refused.");
        Epsilonhall x = new Epsilonhall();
        int game = x.bases(4);
        due(1, () -> x.play(game, 1));
        due(200, () -> x.play(game, 200));
        due(199, () -> x.play(game, 199));
        due(400, () -> x.moves(game));
        int ending = worm(x, 0, 0, 0);
        due(2, () -> x.play(ending, 2));
        due(1, () -> x.play(ending, 200));
        due(0, () -> x.play(ending, 200));
        int zeros = worm(x, 0, 0, 0);
        due(3, () -> x.play(zeros, 3));
        due(true, () -> x.isOver(zeros));
        says("Throws `UnsupportedOperationException` if it has ended, or is refused");
        due(UNSUPPORTED, () -> x.move(ending));
        due(UNSUPPORTED, () -> x.move(x.hydra()));
        due(UNSUPPORTED, () -> x.move(x.bases(0)));
        due(UNSUPPORTED, () -> x.move(x.bases(16)));
        due(3, () -> x.moves(ending));
    }

    private static void fallingOrdinals() {
        says("Tells whether the ordinal fell with each move so far, those too great not counted.");
        Epsilonhall x = new Epsilonhall();
        int[] games = {worm(x, 9), worm(x, 2, 1, 2), hydra(x, 0, 1, 2, 3, 4, 5, 6), hydra(x), x.bases(7), x.bases(0)};
        for (int game : games) {
            due(true, () -> x.falls(game));
            x.play(game, 200);
            due(true, () -> x.falls(game));
        }
        due(INDEX, () -> x.falls(6));
        due(INDEX, () -> x.falls(-1));
    }

    // ---- trees

    private static void trees() {
        says("A hydra embeds in another one if its root embeds in a knot of that.");
        Epsilonhall x = new Epsilonhall();
        int root = hydra(x);
        int path = hydra(x, 0);
        int fork = hydra(x, 0, 0);
        int high = hydra(x, 0, 1, 2, 2);
        due(true, () -> x.embeds(root, root));
        due(true, () -> x.embeds(root, path));
        due(false, () -> x.embeds(path, root));
        due(true, () -> x.embeds(path, path));
        due(false, () -> x.embeds(fork, path));
        due(true, () -> x.embeds(fork, high));
        due(false, () -> x.embeds(high, fork));
        says("so that each one embeds in the knot to which it is given, or in a knot above that");
        int wide = hydra(x, 0, 1, 2, 0);
        int tall = hydra(x, 0, 1, 2, 3, 0);
        due(true, () -> x.embeds(wide, tall));
        due(false, () -> x.embeds(tall, wide));
        due(true, () -> x.embeds(fork, tall));
        says("Throws `UnsupportedOperationException` if one is no hydra, or has more than 14 knots");
        Epsilonhall y = new Epsilonhall();
        int many = hydra(y, 0, 1, 1, 1, 1, 1, 1, 0, 0);
        int small = hydra(y);
        int dull = worm(y, 1);
        y.move(many);
        due(15L, () -> y.measure(many));
        due(UNSUPPORTED, () -> y.embeds(many, many));
        due(UNSUPPORTED, () -> y.embeds(many, small));
        due(UNSUPPORTED, () -> y.embeds(small, many));
        due(UNSUPPORTED, () -> y.embeds(dull, small));
        due(UNSUPPORTED, () -> y.embeds(small, dull));
        due(INDEX, () -> y.embeds(many, 3));
        due(INDEX, () -> y.embeds(-1, dull));
        y.cut(many, 9);
        due(14L, () -> y.measure(many));
        due(true, () -> y.embeds(many, many));
        due(false, () -> y.embeds(many, small));
        due(true, () -> y.embeds(small, many));
    }

    // ---- programs

    private static void programs() {
        range(39, "`value`: the value, 0 to 999999", 0, 999999, (x, n) -> x.setCounter(0, n));
        range(39, "`value`: the value, 0 to 999999", 0, 999999, (x, n) -> x.setCounter(3, n));
        says("A program has counters 0 to 3, from 0 to 999999, and at most 8 steps.");
        refusedAt(ARGUMENT, (x, n) -> x.setCounter(n, 0), -1, 4, LEAST, GREATEST);
        refusedAt(ARGUMENT, (x, n) -> x.counter(n), -1, 4, LEAST, GREATEST);
        Epsilonhall x = new Epsilonhall();
        due(0, () -> x.setCounter(0, 999999));
        due(0, () -> x.counter(3));
        due(0, () -> x.setCounter(3, 1));
        due(999999, () -> x.setCounter(0, 0));
        due(1, () -> x.setCounter(3, 999999));
        due(999999, () -> x.counter(3));
        for (int k = 0; k < 8; k++) {
            int next = k;
            due(INDEX, () -> x.holds(next));
            due(next, () -> x.addStep(next % 4, -1, 0, -1, 0));
            due(true, () -> x.holds(next));
        }
        due(STATE, () -> x.addStep(0, -1, 0, -1, 0));
        due(STATE, () -> x.addStep(3, 0, 1000, 1, -4));
        due(ARGUMENT, () -> x.addStep(4, -1, 0, -1, 0));
        due(INDEX, () -> x.holds(8));
        due(INDEX, () -> x.holds(-1));
    }

    private static void steps() {
        String words = "`to`: a number, 0 to 1000, or -1 to -4 for the counters 0 to 3, also if first is -1";
        range(40, words, -4, 1000, (x, n) -> x.addStep(0, 1, n, -1, 0));
        range(40, words, -4, 1000, (x, n) -> x.addStep(0, -1, n, -1, 0));
        says("- `toOther`: likewise for second");
        for (int allowed : new int[] {-4, -1, 0, 1000}) {
            due(0, () -> some().addStep(0, -1, 0, 1, allowed));
            due(0, () -> some().addStep(0, -1, 0, -1, allowed));
        }
        refusedAt(ARGUMENT, (x, n) -> x.addStep(0, -1, 0, 1, n), -5, 1001, LEAST, GREATEST);
        refusedAt(ARGUMENT, (x, n) -> x.addStep(0, -1, 0, -1, n), -5, 1001, LEAST, GREATEST);
        says("- `first`: a counter that is set, or -1");
        says("- `second`: another counter that is set, or -1");
        for (int guard = 0; guard < 4; guard++) {
            for (int one = -1; one < 4; one++) {
                for (int other = -1; other < 4; other++) {
                    boolean isOdd = one == guard || other == guard || one >= 0 && one == other;
                    int[] step = {guard, one, other};
                    due(isOdd ? ARGUMENT : 0, () -> some().addStep(step[0], step[1], 0, step[2], 0));
                }
            }
        }
        refusedAt(ARGUMENT, (x, n) -> x.addStep(n, -1, 0, -1, 0), -1, 4, LEAST, GREATEST);
        refusedAt(ARGUMENT, (x, n) -> x.addStep(0, n, 0, -1, 0), -2, 4, LEAST, GREATEST);
        refusedAt(ARGUMENT, (x, n) -> x.addStep(0, -1, 0, n, 0), -2, 4, LEAST, GREATEST);
        says("or what a counter is ahead of the step");
        Epsilonhall x = new Epsilonhall();
        x.addStep(3, 0, -4, 1, -1);
        x.setCounter(0, 999999);
        x.setCounter(3, 1);
        due(1, () -> x.run(1000));
        due(1, () -> x.counter(0));
        due(999999, () -> x.counter(1));
        due(0, () -> x.counter(2));
        due(0, () -> x.counter(3));
    }

    private static void orders() {
        says("Throws `IllegalArgumentException` if not each counter is in it once");
        Epsilonhall x = new Epsilonhall();
        int before = 123;
        int orders = 0;
        for (int order = -20; order <= 33210; order++) {
            int asking = order;
            if (isOrder(order)) {
                orders++;
                due(before, () -> x.setOrder(asking));
                before = order;
            } else {
                due(ARGUMENT, () -> x.setOrder(asking));
            }
        }
        int all = orders;
        due(24, () -> all);
        due(3210, () -> x.setOrder(123));
        refusedAt(ARGUMENT, (y, n) -> y.setOrder(n), -123, -3210, LEAST, GREATEST, 1000000123);
    }

    private static boolean isOrder(int order) {
        if (order < 0 || order > 9999) {
            return false;
        }
        Set<Integer> digits = Set.of(0, 1, 2, 3);
        Set<Integer> seen = new TreeSet<>(List.of(order / 1000, order / 100 % 10, order / 10 % 10, order % 10));
        return seen.equals(digits);
    }

    private static void rounds() {
        range(42, "`rounds`: how many, 1 to 1000", 1, 1000, (x, n) -> x.run(n));
        says("it can be done if this is at least 1");
        Epsilonhall x = new Epsilonhall();
        due(0, () -> x.run(1000));
        x.addStep(2, -1, 0, -1, 0);
        due(0, () -> x.run(1));
        due(0, () -> x.run(1000));
        x.setCounter(2, 1);
        due(1, () -> x.run(1000));
        due(0, () -> x.counter(2));
        due(0, () -> x.run(1));
        says("Runs the program, till no step can be done.");
        x.setCounter(2, 1000);
        due(1000, () -> x.run(1000));
        due(0, () -> x.run(1000));
        x.setCounter(2, 1001);
        due(1000, () -> x.run(1000));
        due(1, () -> x.counter(2));
        due(1, () -> x.run(1));
        x.setCounter(2, 999999);
        due(1, () -> x.run(1));
        due(999998, () -> x.counter(2));
        due(0, () -> x.rises());
        says("In a round, the first step that can be done is done.");
        Epsilonhall y = new Epsilonhall();
        for (int k = 0; k < 8; k++) {
            y.addStep(k % 4, -1, 0, -1, 0);
        }
        y.setCounter(3, 2);
        y.setCounter(1, 1);
        due(1, () -> y.run(1));
        due(0, () -> y.counter(1));
        due(2, () -> y.run(3));
        due(0, () -> y.counter(3));
        says("Returns how many rounds so far did not make the value, by the order as it was then, less.");
        Epsilonhall z = new Epsilonhall();
        due(0, () -> z.rises());
        z.addStep(3, 0, 0, 2, -3);
        z.setCounter(3, 3);
        // What is set stays as it is: the guard alone is less.
        due(1, () -> z.run(1));
        due(0, () -> z.rises());
        z.setCounter(0, 1);
        due(1, () -> z.run(1));
        due(0, () -> z.rises());
        z.addStep(2, 0, 1, -1, 0);
        z.setCounter(2, 1);
        z.setCounter(3, 0);
        due(1, () -> z.run(1));
        due(1, () -> z.rises());
    }

    private static void certificates() {
        says("It holds for a step if the counters that are set come behind the guard in the order.");
        Epsilonhall x = new Epsilonhall();
        x.addStep(0, 3, 0, -1, 0);
        x.addStep(3, -1, 0, 0, 0);
        x.addStep(3, -1, 0, -1, 0);
        x.addStep(1, 0, 0, 2, 0);
        x.addStep(1, 2, 0, 0, 0);
        due("true false true false false", () -> held(x));
        x.setOrder(1320);
        due("false true true true true", () -> held(x));
        x.setOrder(2130);
        due("false true true false false", () -> held(x));
        says("the value is the sum of omega to the power of 3 times the first counter in it");
        due(0, () -> x.value());
        same("0", x, 0);
        Epsilonhall y = new Epsilonhall();
        String[] ones = {"w^(3)", "w^(2)", "w", "1"};
        for (int k = 0; k < 4; k++) {
            y.setCounter(k, 1);
            same(ones[k], y, y.value());
            y.setCounter(k, 0);
        }
        y.setOrder(3210);
        for (int k = 0; k < 4; k++) {
            y.setCounter(k, 999999);
            same(k == 0 ? "999999" : ones[3 - k] + "*999999", y, y.value());
            y.setCounter(k, 0);
        }
    }

    private static String held(Epsilonhall x) {
        StringBuilder text = new StringBuilder();
        for (int k = 0; k < 5; k++) {
            text.append(k > 0 ? " " : "").append(x.holds(k));
        }
        return text.toString();
    }

    // ---- figures and long use

    private static void figures() {
        says("Returns the share of the games that have ended.");
        Epsilonhall x = new Epsilonhall();
        due(NONE, () -> x.overShare());
        x.number(1);
        due(NONE, () -> x.overShare());
        x.bases(0);
        due(1.0f, () -> x.overShare());
        x.bases(1);
        due(0.5f, () -> x.overShare());
        x.bases(1);
        due(1.0f / 3.0f, () -> x.overShare());
        for (int k = 3; k < 8; k++) {
            x.hydra();
        }
        due(0.75f, () -> x.overShare());
        x.move(1);
        x.move(2);
        due(1.0f, () -> x.overShare());
        Epsilonhall last = new Epsilonhall();
        last.bases(1);
        due(0.0f, () -> last.overShare());
        last.bases(0);
        due(0.5f, () -> last.overShare());
        says("Returns the mean size of all ordinals.");
        Epsilonhall y = new Epsilonhall();
        due(NONE, () -> y.meanSize());
        y.bases(1);
        due(NONE, () -> y.meanSize());
        y.number(0);
        due(0.0, () -> y.meanSize());
        y.number(1);
        due(0.5, () -> y.meanSize());
        y.number(1);
        due(2.0 / 3.0, () -> y.meanSize());
        while (y.ordinals() < 60) {
            y.term(1, 1);
        }
        due(116.0 / 60.0, () -> y.meanSize());
        Epsilonhall one = new Epsilonhall();
        one.number(999999);
        due(1.0, () -> one.meanSize());
        one.number(0);
        due(0.5, () -> one.meanSize());
        says("what each one tells for 3 is less than it, or 0");
        due(true, () -> y.isSound());
        Epsilonhall none = new Epsilonhall();
        due(true, () -> none.isSound());
        none.number(0);
        due(true, () -> none.isSound());
        Epsilonhall wide = new Epsilonhall();
        wide.sum(wide.product(make(wide, "w"), powers(wide, 74)), make(wide, "w*2"));
        due(true, () -> wide.isSound());
    }

    private static void longUse() {
        says("An object is used for at most 512 calls after it has been made");
        Epsilonhall x = new Epsilonhall();
        int game = x.bases(4);
        for (int k = 0; k < 500; k++) {
            due(200, () -> x.play(game, 200));
        }
        due(100000, () -> x.moves(game));
        due(false, () -> x.isOver(game));
        due(true, () -> x.falls(game));
        Epsilonhall y = new Epsilonhall();
        y.addStep(0, 1, 1, -1, 0);
        y.addStep(1, 0, 1, -1, 0);
        y.setCounter(0, 1);
        for (int k = 0; k < 500; k++) {
            due(1000, () -> y.run(1000));
        }
        due(250000, () -> y.rises());
    }
}
