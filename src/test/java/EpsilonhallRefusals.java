import java.nio.file.Files;
import java.nio.file.Path;
import java.util.ArrayList;
import java.util.List;
import java.util.NoSuchElementException;
import java.util.Set;
import java.util.TreeSet;

/**
 * Each exception that the document tells, and of two that apply the one that is listed first. Each refused call is made
 * in one of two like houses: both must answer alike from then on, as a refused call changes nothing. At the end it is
 * asked whether each line "Throws .." of the document, and each two of a call, had a test.
 */
public final class EpsilonhallRefusals {
    private static final int LEAST = Integer.MIN_VALUE;
    private static final int GREATEST = Integer.MAX_VALUE;
    // What no ordinals, games, counters and steps of any house here have.
    private static final int[] NOWHERE = {-1, 60, LEAST, GREATEST};

    // The ordinals of the houses "some" and "full".
    private static final int ZERO = 0;
    private static final int ONE = 1;
    private static final int W = 2;
    private static final int W_1 = 3;
    private static final int MOST = 4;
    private static final int HIGH = 9;
    private static final int NARROW = 17;
    private static final int WIDE = 18;
    private static final int WIDER = 19;

    // The games of the houses "some" and "full".
    private static final int WORM = 0;
    private static final int HYDRA = 1;
    private static final int BASES = 2;
    private static final int ENDED_WORM = 3;
    private static final int ROOT = 4;

    // The games of the house "stuck".
    private static final int STUCK_WORM = 0;
    private static final int STUCK_HYDRA = 1;
    private static final int STUCK_BASES = 2;
    private static final int CUT_DOWN = 4;
    private static final int ENDED_BASES = 5;
    private static final int HIGH_HYDRA = 6;
    private static final int HIGH_WORM = 7;

    private static final List<List<String>> told = new ArrayList<>();
    private static final Set<String> tested = new TreeSet<>();
    private static int wrong = 0;

    private interface House {
        Epsilonhall make();
    }

    private interface Act {
        Object on(Epsilonhall x);
    }

    private interface Pair {
        int on(Epsilonhall x, int one, int other);
    }

    private interface Single {
        Object on(Epsilonhall x, int asked);
    }

    public static void main(String[] args) throws Exception {
        readThrows();
        adding();
        pairs();
        rows();
        asking();
        functions();
        buffers();
        newGames();
        askingGames();
        moving();
        ordinalsOfGames();
        embedding();
        programs();
        figures();
        askCoverage();
        System.out.println(wrong == 0 ? "each refusal is as due" : wrong + " answers are not as due");
        if (wrong != 0) {
            System.exit(1);
        }
    }

    // ---- what the document says

    private static void readThrows() throws Exception {
        told.add(new ArrayList<>());
        for (String line : Files.readAllLines(Path.of("../shared/DOC.md"))) {
            if (line.startsWith("## Promise ")) {
                told.add(new ArrayList<>());
            } else if (line.startsWith("Throws `")) {
                told.get(told.size() - 1).add(line.substring(8, line.indexOf('`', 8)));
            }
        }
        if (told.size() != 50) {
            fault("the document has " + (told.size() - 1) + " promises");
        }
    }

    /** Two that can't apply together: without an ordinal or a game, nothing is too great, gone or at its end. */
    private static boolean areApart(int promise, String first, String second) {
        boolean isMissing = first.equals("IndexOutOfBoundsException");
        boolean isOfWhatIsThere = second.equals("UnsupportedOperationException") && promise != 34 && promise != 38;
        return isMissing && (isOfWhatIsThere || second.equals("NoSuchElementException"));
    }

    private static void askCoverage() {
        for (int promise = 1; promise < told.size(); promise++) {
            List<String> lines = told.get(promise);
            for (int k = 0; k < lines.size(); k++) {
                ask(promise + " " + lines.get(k));
                for (int j = k + 1; j < lines.size(); j++) {
                    if (!areApart(promise, lines.get(k), lines.get(j))) {
                        ask(promise + " " + lines.get(k) + " ahead of " + lines.get(j));
                    }
                }
            }
        }
    }

    private static void ask(String line) {
        if (!tested.contains(line)) {
            fault("no test of " + line);
        }
    }

    private static void fault(String text) {
        wrong++;
        System.out.println(text);
    }

    // ---- refused calls

    private static void index(int promise, House house, Act act) {
        refused(promise, "IndexOutOfBoundsException", house, act);
    }

    private static void argument(int promise, House house, Act act) {
        refused(promise, "IllegalArgumentException", house, act);
    }

    private static void unsupported(int promise, House house, Act act) {
        refused(promise, "UnsupportedOperationException", house, act);
    }

    private static void state(int promise, House house, Act act) {
        refused(promise, "IllegalStateException", house, act);
    }

    private static void none(int promise, House house, Act act) {
        refused(promise, "NoSuchElementException", house, act);
    }

    /** Of both, the first one is thrown; it is the one that the document lists first. */
    private static void first(int promise, String one, String other, House house, Act act) {
        List<String> lines = told.get(promise);
        String name = full(lines, one);
        String later = full(lines, other);
        if (lines.indexOf(name) >= lines.indexOf(later)) {
            fault("promise " + promise + " does not list " + name + " ahead of " + later);
        }
        tested.add(promise + " " + name + " ahead of " + later);
        refused(promise, name, house, act);
    }

    private static String full(List<String> lines, String start) {
        for (String line : lines) {
            if (line.startsWith(start)) {
                return line;
            }
        }
        fault("no " + start + " among " + lines);
        return "";
    }

    private static void refused(int promise, String want, House house, Act act) {
        tested.add(promise + " " + want);
        Epsilonhall one = house.make();
        String got;
        try {
            got = "the answer " + act.on(one);
        } catch (RuntimeException e) {
            got = e.getClass().getSimpleName();
        }
        if (!got.equals(want)) {
            fault("promise " + promise + ", line " + line() + ": " + got + ", due is " + want);
        }
        String after = tellAll(one);
        if (!after.equals(tellAll(house.make()))) {
            fault("promise " + promise + ", line " + line() + ": something is other than before");
        }
    }

    private static int line() {
        for (StackTraceElement one : new Throwable().getStackTrace()) {
            String name = one.getMethodName();
            if (!Set.of("line", "refused", "index", "argument", "unsupported", "state", "none", "first").contains(name)) {
                return one.getLineNumber();
            }
        }
        return 0;
    }

    // ---- what a house tells from then on

    private static String tellAll(Epsilonhall x) {
        StringBuilder text = new StringBuilder();
        tellOrdinals(x, text);
        tellGames(x, text);
        tellProgram(x, text);
        tellBuffer(x, text);
        for (int k = 0; k < 3; k++) {
            int game = k;
            text.append(' ').append(tell(() -> x.move(game)));
            text.append(' ').append(tell(() -> x.measure(game)));
            text.append(' ').append(tell(() -> x.falls(game)));
        }
        text.append(' ').append(tell(() -> x.ordinalOf(0)));
        text.append(' ').append(tell(() -> x.value()));
        text.append(' ').append(tell(() -> x.meanSize()));
        text.append(' ').append(tell(() -> x.overShare()));
        text.append(' ').append(x.isSound());
        return text.toString();
    }

    private interface Asked {
        Object answer();
    }

    private static String tell(Asked asked) {
        try {
            return "" + asked.answer();
        } catch (RuntimeException e) {
            return e.getClass().getSimpleName();
        }
    }

    private static void tellOrdinals(Epsilonhall x, StringBuilder text) {
        int ordinals = x.ordinals();
        text.append(ordinals);
        for (int k = 0; k < ordinals; k++) {
            text.append(' ').append(x.size(k)).append(x.compare(k, k > 0 ? k - 1 : k)).append(x.length(k));
        }
    }

    private static void tellGames(Epsilonhall x, StringBuilder text) {
        for (int k = 0; k < 8; k++) {
            int game = k;
            text.append('\n').append(tell(() -> x.kindOf(game))).append(' ').append(tell(() -> x.isOver(game)));
            text.append(' ').append(tell(() -> x.moves(game))).append(' ').append(tell(() -> x.measure(game)));
            text.append(' ').append(tell(() -> x.falls(game)));
            for (int j = 0; j < 9; j++) {
                int index = j;
                text.append(' ').append(tell(() -> x.at(game, index)));
            }
        }
    }

    private static void tellProgram(Epsilonhall x, StringBuilder text) {
        text.append('\n');
        for (int k = 0; k < 8; k++) {
            int step = k;
            text.append(' ').append(tell(() -> x.holds(step)));
        }
        text.append(' ').append(x.rises());
        int order = x.setOrder(3021);
        text.append(' ').append(order);
        x.setOrder(order);
        for (int turn = 0; turn < 3; turn++) {
            for (int k = 0; k < 4; k++) {
                text.append(' ').append(x.counter(k));
            }
            text.append(' ').append(x.run(turn + 1));
        }
        text.append(' ').append(x.rises());
    }

    private static void tellBuffer(Epsilonhall x, StringBuilder text) {
        text.append('\n').append(tell(() -> x.put(1))).append(' ').append(tell(() -> x.hydra()));
        for (int k = 5; k < 8; k++) {
            int game = k;
            for (int j = 0; j < 4; j++) {
                int knot = j;
                text.append(' ').append(tell(() -> x.at(game, knot)));
            }
        }
        text.append(' ').append(tell(() -> x.put(11)));
    }

    // ---- houses

    private static void put(Epsilonhall x, int... numbers) {
        for (int number : numbers) {
            x.put(number);
        }
    }

    private static void worm(Epsilonhall x, int... numbers) {
        put(x, numbers);
        x.worm();
    }

    private static void hydra(Epsilonhall x, int... parents) {
        put(x, parents);
        x.hydra();
    }

    /** Checks that the ordinals are what their names say. */
    private static void checkSome() {
        Epsilonhall x = some();
        int[][] want = {{MOST, 1, 1}, {HIGH, 6, 7}, {NARROW, 2, 149}, {WIDE, 2, 150}, {WIDER, 2, 150}};
        for (int[] one : want) {
            if (x.degree(one[0]) != one[1] || x.size(one[0]) != one[2]) {
                fault("the ordinal " + one[0] + " is other than meant");
            }
        }
    }

    /** A house with some of all, room for more of all, and two numbers in the buffer. */
    private static Epsilonhall some() {
        Epsilonhall x = new Epsilonhall();
        ordinals(x);
        worm(x, 2, 1, 2);
        hydra(x, 0, 1, 2, 1);
        x.bases(4);
        worm(x, 0);
        x.hydra();
        x.move(WORM);
        x.move(HYDRA);
        x.play(BASES, 2);
        x.move(ENDED_WORM);
        put(x, 0, 0);
        x.addStep(0, 1, 5, -1, 0);
        x.addStep(1, 2, -1, 0, 1);
        x.addStep(3, 2, 1000, 1, -3);
        x.setCounter(0, 2);
        x.setCounter(2, 3);
        x.setCounter(3, 70);
        x.setOrder(2103);
        x.run(4);
        return x;
    }

    private static void ordinals(Epsilonhall x) {
        x.number(0);
        x.number(1);
        x.term(ONE, 1);
        x.sum(W, ONE);
        x.number(999999);
        // 5 to 8: omega to the power of omega, that to the power of this, up to the degree 6; with 1 more it is HIGH.
        x.term(W, 1);
        x.term(5, 1);
        x.term(6, 1);
        x.term(7, 1);
        x.sum(8, ONE);
        // 10 to 17: the sums of all powers of omega up to the second, 4th, .. 64th, the 72nd and the 74th.
        x.product(W_1, W_1);
        for (int k = 10; k < 15; k++) {
            x.product(k, k);
        }
        x.product(15, 12);
        x.product(16, 10);
        // WIDE has all powers from the 75th to the first; in WIDER the first one has the count 2.
        x.product(W, 17);
        x.sum(WIDE, W);
    }

    /** A house that holds the most of all. */
    private static Epsilonhall full() {
        Epsilonhall x = some();
        while (x.ordinals() < 60) {
            x.number(7);
        }
        x.hydra();
        x.bases(16);
        hydra(x, 0, 1, 2, 3, 4, 5, 6);
        put(x, 0, 0, 0, 0, 0, 0, 0, 0, 0, 0, 0, 0);
        for (int k = 3; k < 8; k++) {
            x.addStep(k % 4, -1, 0, -1, 0);
        }
        return x;
    }

    /** A house with 8 games, none of which can move, and two of which have ordinals that are too great. */
    private static Epsilonhall stuck() {
        Epsilonhall x = new Epsilonhall();
        worm(x, 0, 3, 4, 4);
        x.play(STUCK_WORM, 200);
        hydra(x, 0, 1, 2, 1, 3);
        x.play(STUCK_HYDRA, 200);
        x.bases(16);
        worm(x, 0);
        x.play(ENDED_WORM, 200);
        hydra(x, 0, 0);
        x.play(CUT_DOWN, 200);
        x.bases(0);
        hydra(x, 0, 1, 2, 3, 4, 5, 6);
        worm(x, 6);
        put(x, 0, 0);
        return x;
    }

    /** A stuck house with 60 ordinals. */
    private static Epsilonhall stuckAndFull() {
        Epsilonhall x = stuck();
        while (x.ordinals() < 60) {
            x.number(7);
        }
        return x;
    }

    /** A house with eight games and these numbers in the buffer. */
    private static Epsilonhall eightGames(int... numbers) {
        Epsilonhall x = new Epsilonhall();
        for (int k = 0; k < 8; k++) {
            x.bases(k);
        }
        put(x, numbers);
        return x;
    }

    private static Epsilonhall buffered(int... numbers) {
        Epsilonhall x = new Epsilonhall();
        put(x, numbers);
        return x;
    }

    // ---- promises 2 and 3

    private static void adding() {
        for (int odd : new int[] {-1, 1000000, LEAST, GREATEST}) {
            argument(2, () -> some(), x -> x.number(odd));
            argument(2, Epsilonhall::new, x -> x.number(odd));
            first(2, "IllegalArgument", "IllegalState", () -> full(), x -> x.number(odd));
            argument(3, () -> some(), x -> x.term(ONE, odd));
        }
        state(2, () -> full(), x -> x.number(0));
        state(2, () -> full(), x -> x.number(999999));
        for (int odd : NOWHERE) {
            index(3, () -> some(), x -> x.term(odd, 1));
            first(3, "IndexOutOf", "IllegalArgument", () -> some(), x -> x.term(odd, 0));
            first(3, "IndexOutOf", "IllegalState", () -> full(), x -> x.term(odd, 1));
        }
        index(3, () -> some(), x -> x.term(x.ordinals(), 1));
        index(3, Epsilonhall::new, x -> x.term(0, 1));
        argument(3, () -> some(), x -> x.term(ONE, 0));
        unsupported(3, () -> some(), x -> x.term(HIGH, 1));
        unsupported(3, () -> some(), x -> x.term(WIDE, 1));
        unsupported(3, () -> some(), x -> x.term(WIDE, 999999));
        first(3, "IllegalArgument", "Unsupported", () -> some(), x -> x.term(HIGH, 0));
        first(3, "IllegalArgument", "Unsupported", () -> some(), x -> x.term(WIDE, 1000000));
        first(3, "IllegalArgument", "IllegalState", () -> full(), x -> x.term(ONE, 0));
        first(3, "Unsupported", "IllegalState", () -> full(), x -> x.term(HIGH, 1));
        first(3, "Unsupported", "IllegalState", () -> full(), x -> x.term(WIDE, 1));
        state(3, () -> full(), x -> x.term(ONE, 1));
        state(3, () -> full(), x -> x.term(ZERO, 999999));
    }

    // ---- promises 4 to 8

    private static void missing(int promise, Pair call) {
        for (int odd : NOWHERE) {
            index(promise, () -> some(), x -> call.on(x, odd, ZERO));
            index(promise, () -> some(), x -> call.on(x, ZERO, odd));
            index(promise, () -> some(), x -> call.on(x, odd, odd));
            first(promise, "IndexOutOf", "IllegalState", () -> full(), x -> call.on(x, odd, ONE));
            first(promise, "IndexOutOf", "IllegalState", () -> full(), x -> call.on(x, ONE, odd));
        }
        index(promise, () -> some(), x -> call.on(x, x.ordinals(), ONE));
        index(promise, () -> some(), x -> call.on(x, ONE, x.ordinals()));
        index(promise, Epsilonhall::new, x -> call.on(x, 0, 0));
        state(promise, () -> full(), x -> call.on(x, ZERO, ONE));
        state(promise, () -> full(), x -> call.on(x, ZERO, ZERO));
    }

    private static void great(int promise, Pair call, int[][] tooGreat) {
        for (int[] two : tooGreat) {
            unsupported(promise, () -> some(), x -> call.on(x, two[0], two[1]));
            first(promise, "Unsupported", "IllegalState", () -> full(), x -> call.on(x, two[0], two[1]));
        }
    }

    private static void pairs() {
        checkSome();
        missing(4, (x, a, b) -> x.sum(a, b));
        great(4, (x, a, b) -> x.sum(a, b), new int[][] {{MOST, ONE}, {ONE, MOST}, {MOST, MOST}, {WIDE, ONE}});
        missing(5, (x, a, b) -> x.product(a, b));
        great(5, (x, a, b) -> x.product(a, b), new int[][] {{MOST, MOST}, {WIDE, W_1}, {NARROW, W_1}});
        missing(6, (x, a, b) -> x.naturalSum(a, b));
        great(6, (x, a, b) -> x.naturalSum(a, b), new int[][] {{MOST, ONE}, {ONE, MOST}, {WIDE, ONE}, {ONE, WIDE}});
        missing(7, (x, a, b) -> x.naturalProduct(a, b));
        great(7, (x, a, b) -> x.naturalProduct(a, b), new int[][] {{MOST, MOST}, {WIDE, W_1}, {W_1, WIDE},
            {NARROW, W_1}, {WIDE, WIDE}});
        missing(8, (x, a, b) -> x.takeOff(a, b));
        great(8, (x, a, b) -> x.takeOff(a, b), new int[][] {{ONE, ZERO}, {W, MOST}, {W_1, W}, {WIDER, WIDE},
            {HIGH, 8}});
    }

    // ---- promise 9

    private static void rows() {
        for (int odd : NOWHERE) {
            index(9, () -> some(), x -> x.row(odd, 0));
            first(9, "IndexOutOf", "IllegalArgument", () -> some(), x -> x.row(odd, 21));
            first(9, "IndexOutOf", "IllegalState", () -> full(), x -> x.row(odd, 0));
        }
        index(9, () -> some(), x -> x.row(x.ordinals(), 0));
        for (int odd : new int[] {-1, 21, LEAST, GREATEST}) {
            argument(9, () -> some(), x -> x.row(W, odd));
            argument(9, () -> some(), x -> x.row(ZERO, odd));
            first(9, "IllegalArgument", "Unsupported", () -> some(), x -> x.row(WIDER, odd));
            first(9, "IllegalArgument", "IllegalState", () -> full(), x -> x.row(W, odd));
        }
        unsupported(9, () -> some(), x -> x.row(WIDER, 1));
        unsupported(9, () -> some(), x -> x.row(WIDER, 20));
        first(9, "Unsupported", "IllegalState", () -> full(), x -> x.row(WIDER, 1));
        state(9, () -> full(), x -> x.row(WIDER, 0));
        state(9, () -> full(), x -> x.row(ZERO, 0));
    }

    // ---- promises 11 to 19

    private static void missing(int promise, Single call) {
        for (int odd : NOWHERE) {
            index(promise, () -> some(), x -> call.on(x, odd));
            index(promise, () -> full(), x -> call.on(x, odd));
        }
        index(promise, () -> some(), x -> call.on(x, x.ordinals()));
        index(promise, Epsilonhall::new, x -> call.on(x, 0));
    }

    private static void asking() {
        missing(11, (x, k) -> x.compare(k, ZERO));
        missing(11, (x, k) -> x.compare(ZERO, k));
        missing(12, (x, k) -> x.degree(k));
        missing(13, (x, k) -> x.size(k));
        missing(14, (x, k) -> x.isLimit(k));
        missing(15, (x, k) -> x.terms(k));
        missing(16, (x, k) -> x.countOf(k, 0));
        missing(17, (x, k) -> x.exponentOf(k, 0));
        missing(18, (x, k) -> x.length(k));
        missing(19, (x, k) -> x.signAt(k, 0));
        // No term of 0, two of omega and 1, 75 of the widest one.
        int[][] terms = {{ZERO, 0}, {ZERO, -1}, {ONE, 1}, {W_1, 2}, {W_1, -1}, {W_1, LEAST}, {W_1, GREATEST},
            {WIDE, 75}, {WIDE, 150}};
        for (int[] one : terms) {
            index(16, () -> some(), x -> x.countOf(one[0], one[1]));
            index(17, () -> some(), x -> x.exponentOf(one[0], one[1]));
            first(17, "IndexOutOf", "IllegalState", () -> full(), x -> x.exponentOf(one[0], one[1]));
        }
        first(17, "IndexOutOf", "IllegalState", () -> full(), x -> x.exponentOf(60, 0));
        state(17, () -> full(), x -> x.exponentOf(W, 0));
        state(17, () -> full(), x -> x.exponentOf(WIDE, 74));
        int[][] signs = {{ZERO, 1}, {ZERO, -1}, {ONE, 1}, {W, 1}, {W_1, 3}, {W_1, -1}, {MOST, 6}, {W_1, LEAST},
            {W_1, GREATEST}};
        for (int[] one : signs) {
            index(19, () -> some(), x -> x.signAt(one[0], one[1]));
        }
    }

    // ---- promises 20 to 23

    private static void function(int promise, Pair call, int most) {
        for (int odd : NOWHERE) {
            index(promise, () -> some(), x -> call.on(x, odd, 0));
            first(promise, "IndexOutOf", "IllegalArgument", () -> some(), x -> call.on(x, odd, -1));
        }
        index(promise, () -> some(), x -> call.on(x, x.ordinals(), most));
        index(promise, Epsilonhall::new, x -> call.on(x, 0, 0));
        for (int odd : new int[] {-1, most + 1, LEAST, GREATEST}) {
            argument(promise, () -> some(), x -> call.on(x, ZERO, odd));
            first(promise, "IllegalArgument", "Unsupported", () -> some(), x -> call.on(x, HIGH, odd));
            first(promise, "IllegalArgument", "Unsupported", () -> some(), x -> call.on(x, WIDER, odd));
        }
        unsupported(promise, () -> some(), x -> call.on(x, HIGH, most));
        unsupported(promise, () -> some(), x -> call.on(x, WIDER, 1));
        unsupported(promise, () -> some(), x -> call.on(x, MOST, 2));
        unsupported(promise, () -> full(), x -> call.on(x, MOST, 2));
    }

    private static void functions() {
        function(20, (x, k, n) -> x.slow(k, n), 100);
        function(21, (x, k, n) -> x.hardy(k, n), 100);
        function(22, (x, k, n) -> x.fast(k, n), 100);
        function(23, (x, k, n) -> x.stepsDown(k, n), 20);
    }

    // ---- promise 24

    private static void buffers() {
        for (int odd : new int[] {-1, 12, LEAST, GREATEST}) {
            argument(24, () -> some(), x -> x.put(odd));
            argument(24, Epsilonhall::new, x -> x.put(odd));
            first(24, "IllegalArgument", "IllegalState", () -> full(), x -> x.put(odd));
        }
        House twelve = () -> buffered(0, 1, 2, 3, 4, 5, 6, 7, 8, 9, 0, 1);
        state(24, twelve, x -> x.put(0));
        state(24, twelve, x -> x.put(11));
        state(24, () -> full(), x -> x.put(0));
        first(24, "IllegalArgument", "IllegalState", twelve, x -> x.put(12));
    }

    // ---- promises 25 to 27

    private static void newGames() {
        argument(25, Epsilonhall::new, x -> x.worm());
        argument(25, () -> buffered(10), x -> x.worm());
        argument(25, () -> buffered(11, 0), x -> x.worm());
        argument(25, () -> buffered(0, 1, 1, 0, 0, 0, 0, 0, 0, 0, 0, 10), x -> x.worm());
        first(25, "IllegalArgument", "IllegalState", () -> eightGames(), x -> x.worm());
        first(25, "IllegalArgument", "IllegalState", () -> eightGames(0, 10), x -> x.worm());
        state(25, () -> eightGames(0), x -> x.worm());
        state(25, () -> eightGames(0, 9, 1), x -> x.worm());
        state(25, () -> full(), x -> x.worm());
        argument(26, () -> buffered(1), x -> x.hydra());
        argument(26, () -> buffered(0, 2), x -> x.hydra());
        argument(26, () -> buffered(0, 1, 2, 3, 4, 5, 6, 7, 8, 9, 11), x -> x.hydra());
        argument(26, () -> buffered(0, 0, 0, 0, 0, 0, 0, 0, 0, 0, 0, 0), x -> x.hydra());
        argument(26, () -> buffered(0, 1, 2, 3, 4, 5, 6, 7, 8, 9, 10, 11), x -> x.hydra());
        argument(26, () -> full(), x -> x.hydra());
        first(26, "IllegalArgument", "IllegalState", () -> eightGames(1), x -> x.hydra());
        first(26, "IllegalArgument", "IllegalState", () -> full(), x -> x.hydra());
        state(26, () -> eightGames(), x -> x.hydra());
        state(26, () -> eightGames(0, 1), x -> x.hydra());
        state(26, () -> stuck(), x -> x.hydra());
        for (int odd : new int[] {-1, 1000000, LEAST, GREATEST}) {
            argument(27, () -> some(), x -> x.bases(odd));
            argument(27, Epsilonhall::new, x -> x.bases(odd));
            first(27, "IllegalArgument", "IllegalState", () -> eightGames(), x -> x.bases(odd));
        }
        state(27, () -> eightGames(), x -> x.bases(0));
        state(27, () -> full(), x -> x.bases(999999));
        state(27, () -> stuck(), x -> x.bases(1));
    }

    // ---- promises 28 to 32

    private static void missingGame(int promise, Single call) {
        for (int odd : new int[] {-1, 5, 8, LEAST, GREATEST}) {
            index(promise, () -> some(), x -> call.on(x, odd));
        }
        index(promise, () -> full(), x -> call.on(x, 8));
        index(promise, Epsilonhall::new, x -> call.on(x, 0));
    }

    private static void askingGames() {
        missingGame(28, (x, g) -> x.kindOf(g));
        missingGame(29, (x, g) -> x.isOver(g));
        missingGame(30, (x, g) -> x.moves(g));
        missingGame(31, (x, g) -> x.measure(g));
        missingGame(32, (x, g) -> x.at(g, 0));
        missingGame(37, (x, g) -> x.falls(g));
        // The worm has 4 numbers, the hydra had 6 knots, the root has none beside it.
        int[][] nowhere = {{WORM, 4}, {WORM, -1}, {WORM, LEAST}, {WORM, GREATEST}, {HYDRA, 6}, {HYDRA, -1},
            {HYDRA, LEAST}, {HYDRA, GREATEST}, {ENDED_WORM, 0}, {ENDED_WORM, -1}, {ROOT, 1}, {ROOT, -1}, {BASES, 0},
            {BASES, -1}};
        for (int[] one : nowhere) {
            index(32, () -> some(), x -> x.at(one[0], one[1]));
        }
        none(32, () -> some(), x -> x.at(HYDRA, 3));
        none(32, () -> stuck(), x -> x.at(CUT_DOWN, 1));
        none(32, () -> stuck(), x -> x.at(CUT_DOWN, 2));
        index(32, () -> stuck(), x -> x.at(CUT_DOWN, 3));
        index(32, () -> stuck(), x -> x.at(ENDED_BASES, 0));
    }

    // ---- promises 33 to 35

    private static void moving() {
        missingGame(33, (x, g) -> x.move(g));
        missingGame(34, (x, g) -> x.cut(g, 1));
        missingGame(35, (x, g) -> x.play(g, 1));
        for (int game : new int[] {STUCK_WORM, STUCK_HYDRA, STUCK_BASES, ENDED_WORM, CUT_DOWN, ENDED_BASES}) {
            unsupported(33, () -> stuck(), x -> x.move(game));
        }
        unsupported(33, () -> some(), x -> x.move(ROOT));
        for (int game : new int[] {STUCK_WORM, STUCK_BASES, ENDED_WORM, ENDED_BASES, HIGH_WORM}) {
            index(34, () -> stuck(), x -> x.cut(game, 0));
            index(34, () -> stuck(), x -> x.cut(game, 1));
            first(34, "IndexOutOf", "Unsupported", () -> stuck(), x -> x.cut(game, -1));
        }
        // The hydra has had 6 knots, of which 3 is gone, and 0, 1 are no heads.
        for (int odd : new int[] {-1, 6, 7, LEAST, GREATEST}) {
            index(34, () -> some(), x -> x.cut(HYDRA, odd));
            first(34, "IndexOutOf", "Unsupported", () -> stuck(), x -> x.cut(CUT_DOWN, odd < 6 ? odd : 3));
        }
        for (int knot : new int[] {0, 1, 3}) {
            unsupported(34, () -> some(), x -> x.cut(HYDRA, knot));
        }
        for (int knot : new int[] {0, 1, 2}) {
            unsupported(34, () -> stuck(), x -> x.cut(CUT_DOWN, knot));
        }
        unsupported(34, () -> some(), x -> x.cut(ROOT, 0));
        index(34, () -> some(), x -> x.cut(ROOT, 1));
        unsupported(34, () -> stuck(), x -> x.cut(STUCK_HYDRA, lowestHead(x, STUCK_HYDRA)));
        for (int odd : new int[] {0, -1, 201, LEAST, GREATEST}) {
            argument(35, () -> some(), x -> x.play(WORM, odd));
            argument(35, () -> stuck(), x -> x.play(ENDED_WORM, odd));
            first(35, "IndexOutOf", "IllegalArgument", () -> some(), x -> x.play(5, odd));
            first(35, "IndexOutOf", "IllegalArgument", () -> full(), x -> x.play(8, odd));
        }
    }

    private static int lowestHead(Epsilonhall x, int game) {
        Set<Integer> carrying = new TreeSet<>();
        List<Integer> living = new ArrayList<>();
        for (int k = 1; k < 300; k++) {
            try {
                carrying.add(x.at(game, k));
                living.add(k);
            } catch (NoSuchElementException e) {
                continue;
            } catch (IndexOutOfBoundsException e) {
                break;
            }
        }
        for (int knot : living) {
            if (!carrying.contains(knot)) {
                return knot;
            }
        }
        return -1;
    }

    // ---- promise 36

    private static void ordinalsOfGames() {
        missingGame(36, (x, g) -> x.ordinalOf(g));
        for (int odd : new int[] {-1, 8, LEAST, GREATEST}) {
            first(36, "IndexOutOf", "IllegalState", () -> full(), x -> x.ordinalOf(odd));
        }
        for (int game : new int[] {HIGH_HYDRA, HIGH_WORM}) {
            unsupported(36, () -> stuck(), x -> x.ordinalOf(game));
            first(36, "Unsupported", "IllegalState", () -> stuckAndFull(), x -> x.ordinalOf(game));
        }
        for (int game : new int[] {WORM, HYDRA, BASES, ENDED_WORM, ROOT}) {
            state(36, () -> full(), x -> x.ordinalOf(game));
        }
    }

    // ---- promise 38

    private static Epsilonhall manyKnots() {
        Epsilonhall x = new Epsilonhall();
        hydra(x, 0, 1, 1, 1, 1, 1, 1, 0, 0);
        x.move(0);
        hydra(x, 0, 1);
        x.bases(3);
        return x;
    }

    private static void embedding() {
        for (int odd : new int[] {-1, 5, 8, LEAST, GREATEST}) {
            index(38, () -> some(), x -> x.embeds(odd, HYDRA));
            index(38, () -> some(), x -> x.embeds(HYDRA, odd));
            first(38, "IndexOutOf", "Unsupported", () -> some(), x -> x.embeds(odd, WORM));
            first(38, "IndexOutOf", "Unsupported", () -> some(), x -> x.embeds(BASES, odd));
        }
        index(38, Epsilonhall::new, x -> x.embeds(0, 0));
        first(38, "IndexOutOf", "Unsupported", () -> manyKnots(), x -> x.embeds(0, 3));
        for (int game : new int[] {WORM, BASES, ENDED_WORM}) {
            unsupported(38, () -> some(), x -> x.embeds(game, HYDRA));
            unsupported(38, () -> some(), x -> x.embeds(HYDRA, game));
            unsupported(38, () -> some(), x -> x.embeds(game, game));
        }
        // 15 knots.
        unsupported(38, () -> manyKnots(), x -> x.embeds(0, 0));
        unsupported(38, () -> manyKnots(), x -> x.embeds(0, 1));
        unsupported(38, () -> manyKnots(), x -> x.embeds(1, 0));
        unsupported(38, () -> manyKnots(), x -> x.embeds(0, 2));
    }

    // ---- promises 39 to 45

    private static void programs() {
        for (int odd : new int[] {-1, 4, LEAST, GREATEST}) {
            argument(39, () -> some(), x -> x.setCounter(odd, 1));
            argument(43, () -> some(), x -> x.counter(odd));
            argument(39, () -> some(), x -> x.setCounter(odd, -1));
        }
        for (int odd : new int[] {-1, 1000000, LEAST, GREATEST}) {
            argument(39, () -> some(), x -> x.setCounter(0, odd));
            argument(39, () -> some(), x -> x.setCounter(3, odd));
        }
        int[][] steps = {{-1, 1, 1, 2, 1}, {4, 1, 1, 2, 1}, {LEAST, 1, 1, 2, 1}, {GREATEST, 1, 1, 2, 1},
            {0, -2, 1, 2, 1}, {0, 4, 1, 2, 1}, {0, LEAST, 1, 2, 1}, {0, GREATEST, 1, 2, 1},
            {0, 1, -5, 2, 1}, {0, 1, 1001, 2, 1}, {0, 1, LEAST, 2, 1}, {0, 1, GREATEST, 2, 1},
            {0, 1, 1, -2, 1}, {0, 1, 1, 4, 1}, {0, 1, 1, LEAST, 1}, {0, 1, 1, GREATEST, 1},
            {0, 1, 1, 2, -5}, {0, 1, 1, 2, 1001}, {0, 1, 1, 2, LEAST}, {0, 1, 1, 2, GREATEST},
            {0, -1, -5, 2, 1}, {0, -1, 1001, 2, 1}, {0, 1, 1, -1, -5}, {0, 1, 1, -1, 1001},
            {0, 0, 1, 2, 1}, {3, 3, 1, -1, 0}, {0, 1, 1, 0, 1}, {3, -1, 0, 3, 1}, {0, 1, 1, 1, 1}, {0, 3, 1, 3, 1},
            {1, 0, 1, 0, 1}};
        for (int[] one : steps) {
            argument(40, () -> some(), x -> x.addStep(one[0], one[1], one[2], one[3], one[4]));
            first(40, "IllegalArgument", "IllegalState", () -> full(),
                x -> x.addStep(one[0], one[1], one[2], one[3], one[4]));
        }
        state(40, () -> full(), x -> x.addStep(0, 1, 0, 2, 0));
        state(40, () -> full(), x -> x.addStep(0, -1, 0, -1, 0));
        for (int odd : new int[] {-1, 0, 12, 122, 1123, 124, 4321, 10123, 99999, -123, LEAST, GREATEST}) {
            argument(41, () -> some(), x -> x.setOrder(odd));
        }
        for (int odd : new int[] {0, -1, 1001, LEAST, GREATEST}) {
            argument(42, () -> some(), x -> x.run(odd));
            argument(42, Epsilonhall::new, x -> x.run(odd));
        }
        for (int odd : new int[] {-1, 3, 8, LEAST, GREATEST}) {
            index(44, () -> some(), x -> x.holds(odd));
        }
        index(44, () -> full(), x -> x.holds(8));
        index(44, Epsilonhall::new, x -> x.holds(0));
        state(45, () -> full(), x -> x.value());
    }

    // ---- promises 47 and 48

    private static void figures() {
        none(47, Epsilonhall::new, x -> x.overShare());
        none(48, Epsilonhall::new, x -> x.meanSize());
        House ordinalsAlone = () -> {
            Epsilonhall x = new Epsilonhall();
            x.number(0);
            return x;
        };
        none(47, ordinalsAlone, x -> x.overShare());
        none(48, () -> eightGames(), x -> x.meanSize());
    }
}
