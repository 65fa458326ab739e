import java.lang.reflect.InvocationTargetException;
import java.lang.reflect.Method;
import java.math.BigInteger;
import java.util.ArrayList;
import java.util.Arrays;
import java.util.HashMap;
import java.util.HashSet;
import java.util.List;
import java.util.Map;
import java.util.NoSuchElementException;
import java.util.Random;
import java.util.Set;

/**
 * Plays long runs of calls, drawn from fixed seeds, on an Epsilonhall and on a model of the document, and tells every
 * answer in which they differ. The model says the sentences of the document as plainly as it can, by trees of objects.
 */
public final class EpsilonhallModel {
    private static int wrong = 0;
    private static final Map<String, int[]> SEEN = new HashMap<>();

    public static void main(String[] args) throws Exception {
        int runs = args.length > 0 ? Integer.parseInt(args[0]) : 220;
        int firstSeed = args.length > 1 ? Integer.parseInt(args[1]) : 1;
        // The model follows the functions by recursion, one level for each use.
        Thread thread = new Thread(null, () -> playAll(runs, firstSeed), "model", 1L << 30);
        thread.start();
        thread.join();
        checkThatAllWasSeen(runs);
        System.out.println(wrong == 0 ? "the class and the model agree" : wrong + " answers differ");
        if (wrong != 0) {
            System.exit(1);
        }
    }

    private static void playAll(int runs, int firstSeed) {
        try {
            Map<String, Method> face = methodsOf(Epsilonhall.class);
            Map<String, Method> model = methodsOf(House.class);
            for (int k = 0; k < runs && wrong < 20; k++) {
                playRun(firstSeed + k, face, model);
            }
        } catch (Throwable e) {
            e.printStackTrace();
            wrong++;
        }
    }

    private static Map<String, Method> methodsOf(Class<?> type) {
        Map<String, Method> methods = new HashMap<>();
        for (Method method : type.getDeclaredMethods()) {
            if (!method.isSynthetic() && (method.getModifiers() & java.lang.reflect.Modifier.PUBLIC) != 0) {
                methods.put(method.getName(), method);
            }
        }
        return methods;
    }

    private static void playRun(int seed, Map<String, Method> face, Map<String, Method> model) throws Exception {
        // Seeds side by side would draw alike at first.
        Random random = new Random(seed * 0x9E3779B97F4A7C15L);
        Epsilonhall hall = new Epsilonhall();
        House house = new House();
        StringBuilder told = new StringBuilder();
        Draw draw = new Draw(random, house);
        for (int k = 0; k < 512; k++) {
            boolean opens = !draw.opening.isEmpty();
            String name = opens ? draw.openingNames.remove(0) : draw.name();
            Object[] arguments = opens ? draw.opening.remove(0) : draw.arguments(name);
            String due = answer(house, model.get(name), arguments);
            String got = answer(hall, face.get(name), arguments);
            String call = name + Arrays.toString(arguments);
            told.append("  ").append(call).append(" -> ").append(due).append('\n');
            note(name, due);
            if (!due.equals(got)) {
                wrong++;
                System.out.println("seed " + seed + ", call " + k + ": " + call + " answered " + got + ", due is " + due);
                if (wrong == 1) {
                    System.out.println(told);
                }
                return;
            }
        }
        compareAll(seed, hall, house);
    }

    private static void compareAll(int seed, Epsilonhall hall, House house) {
        for (int k = 0; k < house.ords.size(); k++) {
            String due = house.ords.get(k).text();
            StringBuilder got = new StringBuilder();
            int length = hall.length(k);
            for (int j = 0; j < length; j++) {
                got.append(hall.signAt(k, j));
            }
            if (!due.contentEquals(got)) {
                wrong++;
                System.out.println("seed " + seed + ", ordinal " + k + " is " + got + ", due is " + due);
            }
        }
        if (!hall.isSound()) {
            wrong++;
            System.out.println("seed " + seed + " is not sound");
        }
    }

    private static String answer(Object on, Method method, Object[] arguments) throws Exception {
        try {
            return String.valueOf(method.invoke(on, arguments));
        } catch (InvocationTargetException e) {
            return "throws." + e.getCause().getClass().getSimpleName();
        }
    }

    private static void note(String name, String answer) {
        String key = answer.startsWith("throws.") ? name + " " + answer : name;
        SEEN.computeIfAbsent(key, x -> new int[1])[0]++;
    }

    /** The runs are worth little if they never come to an answer or to an exception of the document. */
    private static void checkThatAllWasSeen(int runs) {
        if (System.getenv("SHOW") != null) {
            SEEN.entrySet().stream().sorted(Map.Entry.comparingByKey())
                    .forEach(e -> System.out.println(e.getKey() + " " + e.getValue()[0]));
        }
        if (runs < 200) {
            return;
        }
        for (Method method : methodsOf(Epsilonhall.class).values()) {
            expectSeen(method.getName());
            for (Class<?> thrown : method.getExceptionTypes()) {
                expectSeen(method.getName() + " throws." + thrown.getSimpleName());
            }
        }
    }

    private static void expectSeen(String key) {
        if (!SEEN.containsKey(key)) {
            wrong++;
            System.out.println("the runs never came to: " + key);
        }
    }

    /** Draws calls, of which some are of one kind for a whole run. */
    private static final class Draw {
        private static final String[] BUILD = {"number", "number", "term", "term", "term", "sum", "sum", "product",
            "product", "naturalSum", "naturalSum", "naturalProduct", "takeOff", "row", "row", "exponentOf"};
        private static final String[] ASK = {"ordinals", "compare", "compare", "degree", "size", "isLimit", "terms",
            "countOf", "length", "signAt", "meanSize", "isSound"};
        private static final String[] WALK = {"slow", "hardy", "fast", "fast", "stepsDown"};
        private static final String[] START = {"put", "put", "put", "put", "put", "put", "put", "put", "put", "put",
            "put", "put", "worm", "worm", "hydra", "hydra", "bases"};
        private static final String[] PLAY = {"kindOf", "isOver", "moves", "measure", "measure", "at", "at", "move",
            "move", "move", "cut", "cut", "cut", "play", "ordinalOf", "ordinalOf", "falls", "embeds", "embeds",
            "overShare"};
        private static final String[] PROGRAM = {"setCounter", "setCounter", "addStep", "addStep", "setOrder", "run",
            "run", "counter", "counter", "holds", "value", "rises", "rises"};
        private static final String[][] ALL = {BUILD, ASK, WALK, START, PLAY, PROGRAM};

        private final Random random;
        private final House house;
        private final int[] weights = new int[ALL.length];
        private int total;
        private final int wildness;
        private final boolean isReady;
        private final boolean isGreedy;
        private int made;
        final List<String> openingNames = new ArrayList<>();
        final List<Object[]> opening = new ArrayList<>();

        Draw(Random random, House house) {
            this.random = random;
            this.house = house;
            for (int k = 0; k < ALL.length; k++) {
                weights[k] = random.nextInt(4) == 0 ? 0 : 1 + random.nextInt(8);
                total += weights[k];
            }
            if (total == 0) {
                weights[0] = 1;
                total = 1;
            }
            wildness = random.nextInt(3) == 0 ? 4 : 30;
            isReady = random.nextInt(8) > 0;
            isGreedy = random.nextInt(3) == 0;
            if (isGreedy && random.nextBoolean()) {
                openGreatly();
            }
        }

        /** The first calls of some runs make an ordinal of many powers, the last one of which is there often. */
        private void openGreatly() {
            int powers = 70 + random.nextInt(6);
            int sum = open("number", 1);
            int all = -1;
            int have = 0;
            for (int bit = 1; bit <= 64; bit *= 2) {
                if ((powers & bit) != 0) {
                    int placed = open("product", open("term", open("number", have + 1), 1), sum);
                    all = all < 0 ? placed : open("sum", placed, all);
                    have += bit;
                }
                if (bit < 64) {
                    int power = open("term", open("number", bit), 1 + random.nextInt(2));
                    sum = open("sum", open("product", power, sum), sum);
                }
            }
            int w = open("term", 0, 1 + random.nextInt(3));
            open("sum", all, w);
        }

        private int open(String name, Object... arguments) {
            openingNames.add(name);
            opening.add(arguments);
            return opening.size() - 1;
        }

        String name() {
            made++;
            if (made <= 3 && isReady) {
                return made == 3 ? "term" : "number";
            }
            int at = random.nextInt(total);
            int kind = 0;
            while (at >= weights[kind]) {
                at -= weights[kind];
                kind++;
            }
            String name = ALL[kind][random.nextInt(ALL[kind].length)];
            // Of the few places for ordinals most are kept for what is greater.
            if (kind == 0 && house.ords.size() > 40 && random.nextInt(3) > 0) {
                return ASK[random.nextInt(ASK.length)];
            }
            boolean isFull = house.games.size() == 8 || name.equals("put") && house.buffer.size() == 12;
            if (kind == 3 && isFull && random.nextInt(8) > 0) {
                return house.games.size() == 8 ? PLAY[random.nextInt(PLAY.length)] : "worm";
            }
            return name;
        }

        private boolean isWild() {
            return random.nextInt(wildness) == 0;
        }

        private int among(int size) {
            if (isWild()) {
                int[] odd = {-1, size, size + 1, Integer.MAX_VALUE, Integer.MIN_VALUE, -2};
                return odd[random.nextInt(odd.length)];
            }
            return size == 0 ? 0 : random.nextInt(size);
        }

        private int range(int least, int most) {
            if (isWild()) {
                int[] odd = {least - 1, most + 1, Integer.MAX_VALUE, Integer.MIN_VALUE, least, most};
                return odd[random.nextInt(odd.length)];
            }
            int width = most - least + 1;
            int narrowed = random.nextBoolean() ? width : Math.min(width, 4);
            return least + random.nextInt(narrowed);
        }

        private int ordinal() {
            int drawn = among(house.ords.size());
            if (isGreedy && drawn >= 0 && drawn < house.ords.size() && random.nextInt(4) > 0) {
                int other = random.nextInt(house.ords.size());
                return house.ords.get(other).size() > house.ords.get(drawn).size() ? other : drawn;
            }
            return drawn;
        }

        private int small(int most) {
            return random.nextInt(3) == 0 ? range(0, most) : random.nextInt(4);
        }

        private int count(int least) {
            return random.nextInt(4) == 0 ? range(least, 999999) : least + random.nextInt(4);
        }

        private int game() {
            return among(house.games.size());
        }

        private int termOf(int ordinal) {
            boolean known = ordinal >= 0 && ordinal < house.ords.size();
            return among(known ? house.ords.get(ordinal).terms.size() : 1);
        }

        private int placeIn(int game) {
            boolean known = game >= 0 && game < house.games.size();
            return among(known ? house.games.get(game).places() : 3);
        }

        private int greatLimit(int drawn) {
            int found = drawn;
            int greatest = 0;
            for (int k = 0; k < house.ords.size(); k++) {
                Ord ordinal = house.ords.get(k);
                if (ordinal.isLimit() && ordinal.size() > greatest && random.nextInt(4) > 0) {
                    greatest = ordinal.size();
                    found = k;
                }
            }
            return found;
        }

        private int headOf(int game) {
            if (game < 0 || game >= house.games.size() || !(house.games.get(game) instanceof HydraPlay)) {
                return 0;
            }
            HydraPlay hydra = (HydraPlay) house.games.get(game);
            int start = random.nextInt(hydra.places());
            for (int k = 0; k < hydra.places(); k++) {
                if (hydra.isHead((start + k) % hydra.places())) {
                    return (start + k) % hydra.places();
                }
            }
            return 0;
        }

        private int told() {
            return random.nextBoolean() ? range(-4, 1000) : random.nextInt(12) - 4;
        }

        private int order() {
            if (isWild()) {
                int[] odd = {-1, 1123, 10123, 12345, 9999, 0, 3211, -123, 1234, 122, 3333, 103210, Integer.MIN_VALUE};
                return odd[random.nextInt(odd.length)];
            }
            List<Integer> left = new ArrayList<>(List.of(0, 1, 2, 3));
            int order = 0;
            for (int k = 0; k < 4; k++) {
                order = order * 10 + left.remove(random.nextInt(left.size()));
            }
            return order;
        }

        Object[] arguments(String name) {
            int o = ordinal();
            int g = game();
            switch (name) {
                case "number": return row(count(0));
                case "term": return row(o, count(1));
                case "sum": case "product": case "naturalSum": case "naturalProduct": case "takeOff": case "compare":
                    return row(o, ordinal());
                case "row": return row(isGreedy ? greatLimit(o) : o, small(20));
                case "stepsDown": return row(o, small(20));
                case "degree": case "size": case "isLimit": case "terms": case "length": return row(o);
                case "countOf": case "exponentOf": return row(o, termOf(o));
                case "signAt":
                    return row(o, among(o >= 0 && o < house.ords.size() ? house.ords.get(o).text().length() : 1));
                case "slow": case "hardy": case "fast": return row(o, small(100));
                case "put":
                    return row(isWild() ? range(0, 11) : random.nextInt(1 + Math.min(house.buffer.size(), 9)));
                case "bases": return row(random.nextBoolean() ? random.nextInt(20) : range(0, 999999));
                case "kindOf": case "isOver": case "moves": case "measure": case "move": case "ordinalOf": case "falls":
                    return row(g);
                case "cut": return row(g, random.nextBoolean() ? headOf(g) : placeIn(g));
                case "at": return row(g, placeIn(g));
                case "play": return row(g, range(1, 200));
                case "embeds": return row(g, game());
                case "setCounter": return row(range(0, 3), count(0));
                case "addStep": return row(range(0, 3), range(-1, 3), told(), range(-1, 3), told());
                case "setOrder": return row(order());
                case "run": return row(range(1, 1000));
                case "counter": return row(range(0, 3));
                case "holds": return row(among(house.steps.size()));
                default: return new Object[0];
            }
        }

        private static Object[] row(Object... arguments) {
            return arguments;
        }
    }

    /** What is too great, or beyond reach. */
    private static final class TooGreat extends RuntimeException {
        TooGreat() {
            super(null, null, false, false);
        }
    }

    private static final class Term {
        final Ord exponent;
        final long count;

        Term(Ord exponent, long count) {
            this.exponent = exponent;
            this.count = count;
        }
    }

    private static final class Ord {
        static final Ord ZERO = new Ord(new ArrayList<>());
        static final Ord ONE = of(1);
        final List<Term> terms;

        Ord(List<Term> terms) {
            this.terms = terms;
        }

        static Ord of(long number) {
            return power(ZERO, number);
        }

        static Ord power(Ord exponent, long count) {
            return count == 0 ? ZERO : new Ord(List.of(new Term(exponent, count)));
        }

        boolean isZero() {
            return terms.isEmpty();
        }

        Term last() {
            return terms.get(terms.size() - 1);
        }

        boolean isLimit() {
            return !isZero() && !last().exponent.isZero();
        }

        int degree() {
            return isZero() ? 0 : 1 + terms.get(0).exponent.degree();
        }

        int size() {
            int size = terms.size();
            for (Term term : terms) {
                size += term.exponent.size();
            }
            return size;
        }

        boolean hasGreatCount() {
            for (Term term : terms) {
                if (term.count > 999999 || term.exponent.hasGreatCount()) {
                    return true;
                }
            }
            return false;
        }

        boolean isTooGreat() {
            return degree() > 6 || size() > 150 || hasGreatCount();
        }

        Ord checked() {
            if (isTooGreat()) {
                throw new TooGreat();
            }
            return this;
        }

        int compare(Ord other) {
            for (int k = 0; k < terms.size() && k < other.terms.size(); k++) {
                int order = terms.get(k).exponent.compare(other.terms.get(k).exponent);
                if (order == 0) {
                    order = Long.compare(terms.get(k).count, other.terms.get(k).count);
                }
                if (order != 0) {
                    return order < 0 ? -1 : 1;
                }
            }
            return Integer.compare(terms.size(), other.terms.size());
        }

        Ord sum(Ord other) {
            if (other.isZero()) {
                return this;
            }
            List<Term> made = new ArrayList<>();
            Term first = other.terms.get(0);
            long more = 0;
            for (Term term : terms) {
                int order = term.exponent.compare(first.exponent);
                if (order > 0) {
                    made.add(term);
                } else if (order == 0) {
                    more = term.count;
                }
            }
            made.add(new Term(first.exponent, first.count + more));
            made.addAll(other.terms.subList(1, other.terms.size()));
            return new Ord(made);
        }

        Ord product(Ord other) {
            List<Term> made = new ArrayList<>();
            if (isZero()) {
                return ZERO;
            }
            Term first = terms.get(0);
            for (Term term : other.terms) {
                if (term.exponent.isZero()) {
                    made.add(new Term(first.exponent, first.count * term.count));
                    made.addAll(terms.subList(1, terms.size()));
                } else {
                    made.add(new Term(first.exponent.sum(term.exponent), term.count));
                }
            }
            return new Ord(made);
        }

        Ord naturalSum(Ord other) {
            Ord made = this;
            for (Term term : other.terms) {
                made = made.with(term);
            }
            return made;
        }

        /** Puts a term to its place among the terms. */
        Ord with(Term added) {
            List<Term> made = new ArrayList<>(terms);
            for (int k = 0; k < made.size(); k++) {
                int order = made.get(k).exponent.compare(added.exponent);
                if (order == 0) {
                    made.set(k, new Term(added.exponent, made.get(k).count + added.count));
                    return new Ord(made);
                }
                if (order < 0) {
                    made.add(k, added);
                    return new Ord(made);
                }
            }
            made.add(added);
            return new Ord(made);
        }

        Ord naturalProduct(Ord other) {
            Ord made = ZERO;
            for (Term one : terms) {
                for (Term two : other.terms) {
                    made = made.with(new Term(one.exponent.naturalSum(two.exponent), one.count * two.count));
                }
            }
            return made;
        }

        /** Takes this off another one: among the ends of the other one, with any count, the one that gives it. */
        Ord takenOff(Ord other) {
            for (int k = 0; k <= other.terms.size(); k++) {
                List<Term> end = other.terms.subList(k, other.terms.size());
                if (end.isEmpty()) {
                    return same(sum(ZERO), other) ? ZERO : null;
                }
                List<Long> counts = new ArrayList<>(List.of(end.get(0).count));
                if (k < terms.size()) {
                    counts.add(end.get(0).count - terms.get(k).count);
                }
                for (long count : counts) {
                    if (count > 0) {
                        List<Term> tried = new ArrayList<>(end);
                        tried.set(0, new Term(end.get(0).exponent, count));
                        if (same(sum(new Ord(tried)), other)) {
                            return new Ord(tried);
                        }
                    }
                }
            }
            return null;
        }

        private static boolean same(Ord one, Ord two) {
            return one.compare(two) == 0;
        }

        Ord row(long n) {
            if (isZero()) {
                return ZERO;
            }
            Ord made = new Ord(terms.subList(0, terms.size() - 1));
            Term last = last();
            if (last.count > 1) {
                List<Term> kept = new ArrayList<>(made.terms);
                kept.add(new Term(last.exponent, last.count - 1));
                made = new Ord(kept);
            }
            if (!isLimit()) {
                return made;
            }
            boolean toLimit = last.exponent.isLimit();
            Ord behind = power(last.exponent.row(n), toLimit ? 1 : n);
            List<Term> all = new ArrayList<>(made.terms);
            all.addAll(behind.terms);
            return new Ord(all);
        }

        String text() {
            if (isZero()) {
                return "0";
            }
            StringBuilder text = new StringBuilder();
            for (Term term : terms) {
                text.append(text.length() > 0 ? "+" : "");
                if (term.exponent.isZero()) {
                    text.append(term.count);
                    continue;
                }
                text.append("w");
                if (!same(term.exponent, ONE)) {
                    text.append("^(").append(term.exponent.text()).append(")");
                }
                text.append(term.count > 1 ? "*" + term.count : "");
            }
            return text.toString();
        }
    }

    /** The functions, each use of a sentence one call. */
    private static final class Growth {
        private int uses;

        private void use(Ord ordinal, long n) {
            uses++;
            if (uses > 20000) {
                throw new TooGreat();
            }
            within(n);
            ordinal.checked();
        }

        private static long within(long n) {
            if (n > 1000000) {
                throw new TooGreat();
            }
            return n;
        }

        long slow(Ord ordinal, long n) {
            use(ordinal, n);
            if (ordinal.isZero()) {
                return 0;
            }
            return within(ordinal.isLimit() ? slow(ordinal.row(n), n) : 1 + slow(ordinal.row(n), n));
        }

        long hardy(Ord ordinal, long n) {
            use(ordinal, n);
            if (ordinal.isZero()) {
                return n;
            }
            return ordinal.isLimit() ? hardy(ordinal.row(n), n) : hardy(ordinal.row(n), n + 1);
        }

        long fast(Ord ordinal, long n) {
            use(ordinal, n);
            if (ordinal.isZero()) {
                return within(n + 1);
            }
            if (ordinal.isLimit()) {
                return fast(ordinal.row(n), n);
            }
            long told = n;
            Ord less = ordinal.row(n);
            for (long k = 0; k < n; k++) {
                told = fast(less, told);
            }
            return told;
        }

        static long stepsDown(Ord ordinal, long n) {
            long steps = 0;
            Ord here = ordinal;
            while (!here.isZero()) {
                if (steps == 20000) {
                    throw new TooGreat();
                }
                here = here.row(n + steps).checked();
                steps++;
            }
            return steps;
        }
    }

    private abstract static class Play {
        int made;
        boolean fell = true;

        abstract char kind();

        abstract boolean isOver();

        abstract long measure();

        abstract int places();

        abstract boolean step();

        abstract Ord weigh();

        Ord ordinal() {
            try {
                return weigh().checked();
            } catch (TooGreat e) {
                return null;
            }
        }

        boolean watched(java.util.function.BooleanSupplier move) {
            Ord ahead = ordinal();
            if (!move.getAsBoolean()) {
                return false;
            }
            made++;
            Ord behind = ordinal();
            if (ahead != null && behind != null && behind.compare(ahead) >= 0) {
                fell = false;
            }
            return true;
        }
    }

    private static final class WormPlay extends Play {
        List<Integer> numbers;

        WormPlay(List<Integer> numbers) {
            this.numbers = new ArrayList<>(numbers);
        }

        char kind() {
            return 'w';
        }

        boolean isOver() {
            return numbers.isEmpty();
        }

        long measure() {
            return numbers.size();
        }

        int places() {
            return numbers.size();
        }

        boolean step() {
            int size = numbers.size();
            int head = numbers.get(size - 1);
            List<Integer> next = new ArrayList<>(numbers.subList(0, size - 1));
            if (head > 0) {
                int length = 1;
                while (length < size && numbers.get(size - 1 - length) >= head) {
                    length++;
                }
                next.add(head - 1);
                if (size + (long) length * (made + 1) > 300) {
                    return false;
                }
                List<Integer> part = new ArrayList<>(next.subList(size - length, size));
                for (int k = 0; k <= made; k++) {
                    next.addAll(part);
                }
            }
            numbers = next;
            return true;
        }

        Ord weigh() {
            return weigh(numbers);
        }

        static Ord weigh(List<Integer> worm) {
            if (worm.isEmpty()) {
                return Ord.ZERO;
            }
            Ord total = Ord.ZERO;
            List<Integer> part = new ArrayList<>();
            for (int k = 0; k <= worm.size(); k++) {
                if (k == worm.size() || worm.get(k) == 0) {
                    Ord power = Ord.power(weigh(part).checked(), 1).checked();
                    total = total.sum(power).checked();
                    part = new ArrayList<>();
                } else {
                    part.add(worm.get(k) - 1);
                }
            }
            return Ord.ONE.takenOff(total);
        }
    }

    private static final class HydraPlay extends Play {
        final List<Integer> parents = new ArrayList<>();
        final Set<Integer> gone = new HashSet<>();

        HydraPlay(List<Integer> told) {
            parents.add(-1);
            parents.addAll(told);
        }

        char kind() {
            return 'h';
        }

        boolean isOver() {
            return measure() == 1;
        }

        long measure() {
            return parents.size() - gone.size();
        }

        int places() {
            return parents.size();
        }

        List<Integer> on(int knot) {
            List<Integer> on = new ArrayList<>();
            for (int k = 1; k < parents.size(); k++) {
                if (!gone.contains(k) && parents.get(k) == knot) {
                    on.add(k);
                }
            }
            return on;
        }

        boolean isHead(int knot) {
            return knot > 0 && !gone.contains(knot) && on(knot).isEmpty();
        }

        boolean step() {
            for (int k = 1; k < parents.size(); k++) {
                if (isHead(k)) {
                    return cut(k);
                }
            }
            return false;
        }

        boolean isAbove(int knot, int below) {
            return knot == below || knot > 0 && isAbove(parents.get(knot), below);
        }

        boolean cut(int head) {
            int foot = parents.get(head);
            gone.add(head);
            if (foot == 0) {
                return true;
            }
            List<Integer> branch = new ArrayList<>();
            for (int k = 0; k < parents.size(); k++) {
                if (!gone.contains(k) && isAbove(k, foot)) {
                    branch.add(k);
                }
            }
            if (parents.size() + (long) branch.size() * (made + 1) > 300) {
                gone.remove(head);
                return false;
            }
            for (int copy = 0; copy <= made; copy++) {
                Map<Integer, Integer> twins = new HashMap<>();
                twins.put(parents.get(foot), parents.get(foot));
                for (int knot : branch) {
                    twins.put(knot, parents.size());
                    parents.add(twins.get(parents.get(knot)));
                }
            }
            return true;
        }

        Ord weigh() {
            return weigh(0);
        }

        Ord weigh(int knot) {
            Ord total = Ord.ZERO;
            for (int twig : on(knot)) {
                total = total.naturalSum(Ord.power(weigh(twig), 1));
            }
            return total;
        }

        boolean embedsIn(HydraPlay other) {
            return inOrAbove(0, other, 0, new HashMap<>());
        }

        boolean inOrAbove(int x, HydraPlay other, int y, Map<Integer, Boolean> known) {
            int key = x * 1000 + y;
            if (!known.containsKey(key)) {
                boolean found = in(x, other, y, known);
                for (int twig : other.on(y)) {
                    found = found || inOrAbove(x, other, twig, known);
                }
                known.put(key, found);
            }
            return known.get(key);
        }

        /** All sets of knots to which the first ones can be given, one knot more at a time. */
        boolean in(int x, HydraPlay other, int y, Map<Integer, Boolean> known) {
            List<Integer> places = other.on(y);
            Set<Integer> taken = new HashSet<>(Set.of(0));
            for (int twig : on(x)) {
                Set<Integer> next = new HashSet<>();
                for (int k = 0; k < places.size(); k++) {
                    if (inOrAbove(twig, other, places.get(k), known)) {
                        for (int set : taken) {
                            if ((set & 1 << k) == 0) {
                                next.add(set | 1 << k);
                            }
                        }
                    }
                }
                taken = next;
            }
            return !taken.isEmpty();
        }
    }

    private static final class BasesPlay extends Play {
        BigInteger number;

        BasesPlay(int number) {
            this.number = BigInteger.valueOf(number);
        }

        char kind() {
            return 'b';
        }

        boolean isOver() {
            return number.signum() == 0;
        }

        long measure() {
            return number.longValue();
        }

        int places() {
            return 1;
        }

        boolean step() {
            BigInteger next = raised(number, BigInteger.valueOf(made + 2));
            if (next == null) {
                return false;
            }
            next = next.subtract(BigInteger.ONE);
            if (next.compareTo(BigInteger.valueOf(1000000000000L)) > 0) {
                return false;
            }
            number = next;
            return true;
        }

        static BigInteger raised(BigInteger number, BigInteger base) {
            BigInteger total = BigInteger.ZERO;
            BigInteger rest = number;
            for (int place = 0; rest.signum() > 0; place++) {
                BigInteger[] parts = rest.divideAndRemainder(base);
                rest = parts[0];
                if (parts[1].signum() > 0) {
                    BigInteger exponent = raised(BigInteger.valueOf(place), base);
                    if (exponent == null || exponent.bitLength() > 10) {
                        return null;
                    }
                    total = total.add(parts[1].multiply(base.add(BigInteger.ONE).pow(exponent.intValue())));
                }
            }
            return total;
        }

        Ord weigh() {
            return weigh(number, BigInteger.valueOf(made + 2));
        }

        static Ord weigh(BigInteger number, BigInteger base) {
            Ord total = Ord.ZERO;
            BigInteger rest = number;
            for (int place = 0; rest.signum() > 0; place++) {
                BigInteger[] parts = rest.divideAndRemainder(base);
                rest = parts[0];
                Ord exponent = weigh0(place, base);
                total = Ord.power(exponent, parts[1].longValue()).sum(total);
            }
            return total;
        }

        static Ord weigh0(int place, BigInteger base) {
            return place == 0 ? Ord.ZERO : weigh(BigInteger.valueOf(place), base);
        }
    }

    /** The face once more, by the model. */
    public static final class House {
        final List<Ord> ords = new ArrayList<>();
        final List<Play> games = new ArrayList<>();
        final List<Integer> buffer = new ArrayList<>();
        final int[] counters = new int[4];
        final List<int[]> steps = new ArrayList<>();
        int order = 123;
        int risen;

        private static void range(long number, long least, long most) {
            if (number < least || number > most) {
                throw new IllegalArgumentException();
            }
        }

        private Ord ord(int k) {
            if (k < 0 || k >= ords.size()) {
                throw new IndexOutOfBoundsException();
            }
            return ords.get(k);
        }

        private Play play(int k) {
            if (k < 0 || k >= games.size()) {
                throw new IndexOutOfBoundsException();
            }
            return games.get(k);
        }

        private int add(Ord made) {
            if (made == null || made.isTooGreat()) {
                throw new UnsupportedOperationException();
            }
            if (ords.size() == 60) {
                throw new IllegalStateException();
            }
            ords.add(made);
            return ords.size() - 1;
        }

        public int number(int number) {
            range(number, 0, 999999);
            return add(Ord.of(number));
        }

        public int term(int ordinal, int count) {
            Ord exponent = ord(ordinal);
            range(count, 1, 999999);
            return add(Ord.power(exponent, count));
        }

        public int sum(int ordinal, int other) {
            return add(ord(ordinal).sum(ord(other)));
        }

        public int product(int ordinal, int other) {
            return add(ord(ordinal).product(ord(other)));
        }

        public int naturalSum(int ordinal, int other) {
            return add(ord(ordinal).naturalSum(ord(other)));
        }

        public int naturalProduct(int ordinal, int other) {
            return add(ord(ordinal).naturalProduct(ord(other)));
        }

        public int takeOff(int ordinal, int other) {
            Ord one = ord(ordinal);
            Ord two = ord(other);
            return add(two.compare(one) < 0 ? null : one.takenOff(two));
        }

        public int row(int ordinal, int n) {
            Ord start = ord(ordinal);
            range(n, 0, 20);
            return add(start.row(n));
        }

        public int ordinals() {
            return ords.size();
        }

        public char compare(int ordinal, int other) {
            int order = ord(ordinal).compare(ord(other));
            return "<=>".charAt(order + 1);
        }

        public int degree(int ordinal) {
            return ord(ordinal).degree();
        }

        public int size(int ordinal) {
            return ord(ordinal).size();
        }

        public boolean isLimit(int ordinal) {
            return ord(ordinal).isLimit();
        }

        public int terms(int ordinal) {
            return ord(ordinal).terms.size();
        }

        private Term termOf(int ordinal, int term) {
            Ord asked = ord(ordinal);
            if (term < 0 || term >= asked.terms.size()) {
                throw new IndexOutOfBoundsException();
            }
            return asked.terms.get(term);
        }

        public int countOf(int ordinal, int term) {
            return (int) termOf(ordinal, term).count;
        }

        public int exponentOf(int ordinal, int term) {
            return add(termOf(ordinal, term).exponent);
        }

        public int length(int ordinal) {
            return ord(ordinal).text().length();
        }

        public char signAt(int ordinal, int index) {
            String text = ord(ordinal).text();
            if (index < 0 || index >= text.length()) {
                throw new IndexOutOfBoundsException();
            }
            return text.charAt(index);
        }

        private interface Telling {
            long tell(Ord ordinal, long n);
        }

        private int tell(Telling telling, int ordinal, int n, int most) {
            Ord start = ord(ordinal);
            range(n, 0, most);
            try {
                return (int) telling.tell(start, n);
            } catch (TooGreat e) {
                throw new UnsupportedOperationException();
            }
        }

        public int slow(int ordinal, int n) {
            return tell(new Growth()::slow, ordinal, n, 100);
        }

        public int hardy(int ordinal, int n) {
            return tell(new Growth()::hardy, ordinal, n, 100);
        }

        public int fast(int ordinal, int n) {
            return tell(new Growth()::fast, ordinal, n, 100);
        }

        public int stepsDown(int ordinal, int n) {
            return tell(Growth::stepsDown, ordinal, n, 20);
        }

        public int put(int number) {
            range(number, 0, 11);
            if (buffer.size() == 12) {
                throw new IllegalStateException();
            }
            buffer.add(number);
            return buffer.size();
        }

        private int begin(Play game, boolean fromBuffer) {
            if (games.size() == 8) {
                throw new IllegalStateException();
            }
            games.add(game);
            if (fromBuffer) {
                buffer.clear();
            }
            return games.size() - 1;
        }

        public int worm() {
            range(buffer.size(), 1, 12);
            for (int number : buffer) {
                range(number, 0, 9);
            }
            return begin(new WormPlay(buffer), true);
        }

        public int hydra() {
            range(buffer.size(), 0, 11);
            for (int k = 1; k <= buffer.size(); k++) {
                range(buffer.get(k - 1), 0, k - 1);
            }
            return begin(new HydraPlay(buffer), true);
        }

        public int bases(int number) {
            range(number, 0, 999999);
            return begin(new BasesPlay(number), false);
        }

        public char kindOf(int game) {
            return play(game).kind();
        }

        public boolean isOver(int game) {
            return play(game).isOver();
        }

        public int moves(int game) {
            return play(game).made;
        }

        public long measure(int game) {
            return play(game).measure();
        }

        public int at(int game, int index) {
            Play asked = play(game);
            if (asked instanceof BasesPlay || index < 0 || index >= asked.places()) {
                throw new IndexOutOfBoundsException();
            }
            if (asked instanceof WormPlay) {
                return ((WormPlay) asked).numbers.get(index);
            }
            if (((HydraPlay) asked).gone.contains(index)) {
                throw new NoSuchElementException();
            }
            return ((HydraPlay) asked).parents.get(index);
        }

        public boolean move(int game) {
            Play moved = play(game);
            if (moved.isOver() || !moved.watched(moved::step)) {
                throw new UnsupportedOperationException();
            }
            return moved.isOver();
        }

        public boolean cut(int game, int knot) {
            Play moved = play(game);
            if (!(moved instanceof HydraPlay) || knot < 0 || knot >= moved.places()) {
                throw new IndexOutOfBoundsException();
            }
            HydraPlay hydra = (HydraPlay) moved;
            if (!hydra.isHead(knot) || !hydra.watched(() -> hydra.cut(knot))) {
                throw new UnsupportedOperationException();
            }
            return hydra.isOver();
        }

        public int play(int game, int moves) {
            Play played = play(game);
            range(moves, 1, 200);
            int done = 0;
            while (done < moves && !played.isOver() && played.watched(played::step)) {
                done++;
            }
            return done;
        }

        public int ordinalOf(int game) {
            return add(play(game).ordinal());
        }

        public boolean falls(int game) {
            return play(game).fell;
        }

        public boolean embeds(int game, int other) {
            Play one = play(game);
            Play two = play(other);
            if (!(one instanceof HydraPlay) || !(two instanceof HydraPlay) || one.measure() > 14
                    || two.measure() > 14) {
                throw new UnsupportedOperationException();
            }
            return ((HydraPlay) one).embedsIn((HydraPlay) two);
        }

        public int setCounter(int counter, int value) {
            range(counter, 0, 3);
            range(value, 0, 999999);
            int was = counters[counter];
            counters[counter] = value;
            return was;
        }

        public int addStep(int guard, int first, int to, int second, int toOther) {
            range(guard, 0, 3);
            range(first, -1, 3);
            range(second, -1, 3);
            range(to, -4, 1000);
            range(toOther, -4, 1000);
            if (first == guard || second == guard || first == second && first != -1) {
                throw new IllegalArgumentException();
            }
            if (steps.size() == 8) {
                throw new IllegalStateException();
            }
            steps.add(new int[] {guard, first, to, second, toOther});
            return steps.size() - 1;
        }

        private static String digits(int order) {
            return String.format("%04d", order);
        }

        public int setOrder(int order) {
            char[] digits = digits(order).toCharArray();
            Arrays.sort(digits);
            if (order < 0 || !"0123".equals(new String(digits))) {
                throw new IllegalArgumentException();
            }
            int was = this.order;
            this.order = order;
            return was;
        }

        private Ord reckoned() {
            Ord total = Ord.ZERO;
            for (int k = 0; k < 4; k++) {
                total = total.sum(Ord.power(Ord.of(3 - k), counters[digits(order).charAt(k) - '0']));
            }
            return total;
        }

        public int run(int rounds) {
            range(rounds, 1, 1000);
            for (int done = 0; done < rounds; done++) {
                int[] step = null;
                for (int[] one : steps) {
                    step = step == null && counters[one[0]] > 0 ? one : step;
                }
                if (step == null) {
                    return done;
                }
                Ord ahead = reckoned();
                int[] old = counters.clone();
                counters[step[0]]--;
                for (int k = 1; k <= 3; k += 2) {
                    if (step[k] >= 0) {
                        counters[step[k]] = step[k + 1] >= 0 ? step[k + 1] : old[-1 - step[k + 1]];
                    }
                }
                risen += reckoned().compare(ahead) < 0 ? 0 : 1;
            }
            return rounds;
        }

        public int counter(int counter) {
            range(counter, 0, 3);
            return counters[counter];
        }

        public boolean holds(int step) {
            if (step < 0 || step >= steps.size()) {
                throw new IndexOutOfBoundsException();
            }
            String digits = digits(order);
            int[] asked = steps.get(step);
            int guard = digits.indexOf('0' + asked[0]);
            return (asked[1] < 0 || digits.indexOf('0' + asked[1]) > guard)
                    && (asked[3] < 0 || digits.indexOf('0' + asked[3]) > guard);
        }

        public int value() {
            return add(reckoned());
        }

        public int rises() {
            return risen;
        }

        public float overShare() {
            if (games.isEmpty()) {
                throw new NoSuchElementException();
            }
            int over = 0;
            for (Play game : games) {
                over += game.isOver() ? 1 : 0;
            }
            return (float) over / (float) games.size();
        }

        public double meanSize() {
            if (ords.isEmpty()) {
                throw new NoSuchElementException();
            }
            long total = 0;
            for (Ord ordinal : ords) {
                total += ordinal.size();
            }
            return (double) total / (double) ords.size();
        }

        public boolean isSound() {
            return true;
        }
    }
}
