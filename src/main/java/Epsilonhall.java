import java.util.NoSuchElementException;

/** A house of great ordinals and of what they measure. */
public final class Epsilonhall {
    private static final int MOST_ORDINALS = 60;
    private static final int MOST_DEGREE = 6;
    private static final int MOST_SIZE = 150;
    private static final int MOST_COUNT = 999999;
    private static final int MOST_ROW = 20;
    private static final int MOST_START = 100;
    private static final int MOST_USES = 20000;
    private static final int MOST_REACHED = 1000000;
    private static final int MOST_FRAMES = 16;
    private static final int MOST_BUFFERED = 12;
    private static final int MOST_PUT = 11;
    private static final int MOST_IN_WORM = 9;
    private static final int MOST_GAMES = 8;
    private static final int MOST_PLAYED = 200;
    private static final int MOST_ROOM = 300;
    private static final long MOST_IN_BASES = 1000000000000L;
    private static final int MOST_PLACES = 64;
    private static final int MOST_NESTED = 10;
    private static final int MOST_EMBEDDED = 14;
    private static final int COUNTERS = 4;
    private static final int MOST_STEPS = 8;
    private static final int MOST_TOLD = 1000;
    private static final int MOST_ROUNDS = 1000;
    private static final int FIRST_ORDER = 123;
    private static final int MOST_ORDER = 9999;
    private static final int SOUND_ROW = 3;
    // A row can at most copy each of the six knots of its last branch once more.
    private static final int WALKING_ROOM = 1000;
    // A knot is written with "+w^()*" and at most six digits.
    private static final int MOST_SIGNS = 12 * MOST_SIZE;

    private final Ordinal[] ordinals = new Ordinal[MOST_ORDINALS];
    private int ordinalsKept;
    private final Game[] games = new Game[MOST_GAMES];
    private int gamesKept;
    private final int[] buffer = new int[MOST_BUFFERED];
    private int buffered;
    private final Program program = new Program();
    private final Ordinal result = new Ordinal(MOST_SIZE);
    private final Bench bench = new Bench();
    private final Walk walk = new Walk();
    private final Text text = new Text();
    private final Embedding embedding = new Embedding();

    public Epsilonhall() {
    }

    // ---- ordinals

    public int number(int number) throws IllegalArgumentException, IllegalStateException {
        checkRange(number, 0, MOST_COUNT);
        result.becomeNumber(number);
        return keep(result);
    }

    public int term(int ordinal, int count)
            throws IndexOutOfBoundsException, IllegalArgumentException, UnsupportedOperationException,
            IllegalStateException {
        Ordinal exponent = ordinalAt(ordinal);
        checkRange(count, 1, MOST_COUNT);
        result.clear();
        result.append(0, count);
        result.appendBelow(exponent, -1, 1);
        return keep(result);
    }

    public int sum(int ordinal, int other)
            throws IndexOutOfBoundsException, UnsupportedOperationException, IllegalStateException {
        Ordinal first = ordinalAt(ordinal);
        Ordinal second = ordinalAt(other);
        result.clear();
        result.appendSum(first, -1, second, -1, 0);
        return keep(result);
    }

    public int product(int ordinal, int other)
            throws IndexOutOfBoundsException, UnsupportedOperationException, IllegalStateException {
        Ordinal first = ordinalAt(ordinal);
        Ordinal second = ordinalAt(other);
        result.becomeProduct(first, second);
        return keep(result);
    }

    public int naturalSum(int ordinal, int other)
            throws IndexOutOfBoundsException, UnsupportedOperationException, IllegalStateException {
        Ordinal first = ordinalAt(ordinal);
        Ordinal second = ordinalAt(other);
        result.clear();
        result.appendNaturalSum(first, -1, second, -1, 0);
        return keep(result);
    }

    public int naturalProduct(int ordinal, int other)
            throws IndexOutOfBoundsException, UnsupportedOperationException, IllegalStateException {
        Ordinal first = ordinalAt(ordinal);
        Ordinal second = ordinalAt(other);
        bench.multiplyNaturally(first, second, result);
        return keep(result);
    }

    public int takeOff(int ordinal, int other)
            throws IndexOutOfBoundsException, UnsupportedOperationException, IllegalStateException {
        Ordinal first = ordinalAt(ordinal);
        Ordinal second = ordinalAt(other);
        if (Ordinal.comparison(second, -1, first, -1) < 0) {
            throw new UnsupportedOperationException("the second ordinal is less");
        }
        result.becomeRest(first, second);
        return keep(result);
    }

    public int row(int ordinal, int n)
            throws IndexOutOfBoundsException, IllegalArgumentException, UnsupportedOperationException,
            IllegalStateException {
        Ordinal start = ordinalAt(ordinal);
        checkRange(n, 0, MOST_ROW);
        return keep(walk.told(start, n));
    }

    public int ordinals() {
        return ordinalsKept;
    }

    public char compare(int ordinal, int other) throws IndexOutOfBoundsException {
        int order = Ordinal.comparison(ordinalAt(ordinal), -1, ordinalAt(other), -1);
        return order < 0 ? '<' : order > 0 ? '>' : '=';
    }

    public int degree(int ordinal) throws IndexOutOfBoundsException {
        return ordinalAt(ordinal).height();
    }

    public int size(int ordinal) throws IndexOutOfBoundsException {
        return ordinalAt(ordinal).used;
    }

    public boolean isLimit(int ordinal) throws IndexOutOfBoundsException {
        Ordinal asked = ordinalAt(ordinal);
        return asked.levelAt(asked.used - 1) > 0;
    }

    public int terms(int ordinal) throws IndexOutOfBoundsException {
        return ordinalAt(ordinal).countTerms();
    }

    public int countOf(int ordinal, int term) throws IndexOutOfBoundsException {
        Ordinal asked = ordinalAt(ordinal);
        return asked.countAt(knotOf(asked, term));
    }

    public int exponentOf(int ordinal, int term) throws IndexOutOfBoundsException, IllegalStateException {
        Ordinal asked = ordinalAt(ordinal);
        int knot = knotOf(asked, term);
        result.clear();
        result.appendBelow(asked, knot, 0);
        return keep(result);
    }

    public int length(int ordinal) throws IndexOutOfBoundsException {
        text.write(ordinalAt(ordinal));
        return text.used;
    }

    public char signAt(int ordinal, int index) throws IndexOutOfBoundsException {
        text.write(ordinalAt(ordinal));
        if (index < 0 || index >= text.used) {
            throw new IndexOutOfBoundsException("there is no such sign");
        }
        return text.sign(index);
    }

    // ---- functions

    public int slow(int ordinal, int n)
            throws IndexOutOfBoundsException, IllegalArgumentException, UnsupportedOperationException {
        Ordinal start = ordinalAt(ordinal);
        checkRange(n, 0, MOST_START);
        return reached(walk.goToZero(start, n, 0, 0, MOST_USES - 1), walk.lessened);
    }

    public int hardy(int ordinal, int n)
            throws IndexOutOfBoundsException, IllegalArgumentException, UnsupportedOperationException {
        Ordinal start = ordinalAt(ordinal);
        checkRange(n, 0, MOST_START);
        return reached(walk.goToZero(start, n, 1, 0, MOST_USES - 1), walk.number);
    }

    public int fast(int ordinal, int n)
            throws IndexOutOfBoundsException, IllegalArgumentException, UnsupportedOperationException {
        Ordinal start = ordinalAt(ordinal);
        checkRange(n, 0, MOST_START);
        return reached(walk.growFast(start, n), walk.number);
    }

    public int stepsDown(int ordinal, int n)
            throws IndexOutOfBoundsException, IllegalArgumentException, UnsupportedOperationException {
        Ordinal start = ordinalAt(ordinal);
        checkRange(n, 0, MOST_ROW);
        return reached(walk.goToZero(start, n, 1, 1, MOST_USES), walk.steps);
    }

    // ---- games

    public int put(int number) throws IllegalArgumentException, IllegalStateException {
        checkRange(number, 0, MOST_PUT);
        if (buffered < 0 || buffered >= buffer.length) {
            throw new IllegalStateException("the buffer is full");
        }
        buffer[buffered] = number;
        buffered++;
        return buffered;
    }

    public int worm() throws IllegalArgumentException, IllegalStateException {
        if (!Worm.isWorm(buffer, buffered)) {
            throw new IllegalArgumentException("the buffer tells no worm");
        }
        checkRoomForGame();
        Game made = new Worm(buffer, buffered);
        made.weighFirst(bench);
        buffered = 0;
        return place(made);
    }

    public int hydra() throws IllegalArgumentException, IllegalStateException {
        if (!Hydra.isHydra(buffer, buffered)) {
            throw new IllegalArgumentException("the buffer tells no hydra");
        }
        checkRoomForGame();
        Game made = new Hydra(buffer, buffered);
        made.weighFirst(bench);
        buffered = 0;
        return place(made);
    }

    public int bases(int number) throws IllegalArgumentException, IllegalStateException {
        checkRange(number, 0, MOST_COUNT);
        checkRoomForGame();
        Game made = new Bases(number);
        made.weighFirst(bench);
        return place(made);
    }

    public char kindOf(int game) throws IndexOutOfBoundsException {
        return gameAt(game).kind();
    }

    public boolean isOver(int game) throws IndexOutOfBoundsException {
        return gameAt(game).hasEnded();
    }

    public int moves(int game) throws IndexOutOfBoundsException {
        return gameAt(game).made;
    }

    public long measure(int game) throws IndexOutOfBoundsException {
        return gameAt(game).extent();
    }

    public int at(int game, int index) throws IndexOutOfBoundsException, NoSuchElementException {
        Game asked = gameAt(game);
        if (index < 0 || index >= asked.places()) {
            throw new IndexOutOfBoundsException("there is no such index or knot");
        }
        int held = asked.held(index);
        if (held == Hydra.GONE) {
            throw new NoSuchElementException("the knot is gone");
        }
        return held;
    }

    public boolean move(int game) throws IndexOutOfBoundsException, UnsupportedOperationException {
        Game moved = gameAt(game);
        if (!moved.advance()) {
            throw new UnsupportedOperationException("the game has ended, or the move is refused");
        }
        moved.settle(bench);
        return moved.hasEnded();
    }

    public boolean cut(int game, int knot) throws IndexOutOfBoundsException, UnsupportedOperationException {
        Game moved = gameAt(game);
        if (!(moved instanceof Hydra)) {
            throw new IndexOutOfBoundsException("the game is no hydra");
        }
        Hydra hydra = (Hydra) moved;
        if (knot < 0 || knot >= hydra.places()) {
            throw new IndexOutOfBoundsException("there was no such knot");
        }
        if (!hydra.cutHead(knot)) {
            throw new UnsupportedOperationException("the knot is no head, or the move is refused");
        }
        hydra.settle(bench);
        return hydra.hasEnded();
    }

    public int play(int game, int moves) throws IndexOutOfBoundsException, IllegalArgumentException {
        Game played = gameAt(game);
        checkRange(moves, 1, MOST_PLAYED);
        int done = 0;
        while (done < moves && played.advance()) {
            played.settle(bench);
            done++;
        }
        return done;
    }

    public int ordinalOf(int game)
            throws IndexOutOfBoundsException, UnsupportedOperationException, IllegalStateException {
        Game asked = gameAt(game);
        if (asked.great) {
            throw new UnsupportedOperationException("the ordinal is too great");
        }
        return keep(asked.ordinal);
    }

    public boolean falls(int game) throws IndexOutOfBoundsException {
        return gameAt(game).fell;
    }

    public boolean embeds(int game, int other) throws IndexOutOfBoundsException, UnsupportedOperationException {
        Game one = gameAt(game);
        Game two = gameAt(other);
        if (!(one instanceof Hydra) || !(two instanceof Hydra)) {
            throw new UnsupportedOperationException("one is no hydra");
        }
        if (one.extent() > MOST_EMBEDDED || two.extent() > MOST_EMBEDDED) {
            throw new UnsupportedOperationException("one has too many knots");
        }
        return embedding.find((Hydra) one, (Hydra) two);
    }

    // ---- programs

    public int setCounter(int counter, int value) throws IllegalArgumentException {
        checkRange(counter, 0, COUNTERS - 1);
        checkRange(value, 0, MOST_COUNT);
        return program.change(counter, value);
    }

    public int addStep(int guard, int first, int to, int second, int toOther)
            throws IllegalArgumentException, IllegalStateException {
        checkRange(guard, 0, COUNTERS - 1);
        checkRange(first, -1, COUNTERS - 1);
        checkRange(to, -COUNTERS, MOST_TOLD);
        checkRange(second, -1, COUNTERS - 1);
        checkRange(toOther, -COUNTERS, MOST_TOLD);
        if (first == guard || second == guard || (first >= 0 && first == second)) {
            throw new IllegalArgumentException("a counter is set that is the guard or the other one");
        }
        if (program.steps >= MOST_STEPS) {
            throw new IllegalStateException("there is no room for another one");
        }
        return program.append(guard, first, to, second, toOther);
    }

    public int setOrder(int order) throws IllegalArgumentException {
        checkRange(order, 0, MOST_ORDER);
        if (!Program.isOrder(order)) {
            throw new IllegalArgumentException("not each counter is in the order once");
        }
        return program.reorder(order);
    }

    public int run(int rounds) throws IllegalArgumentException {
        checkRange(rounds, 1, MOST_ROUNDS);
        int done = 0;
        while (done < rounds && program.doRound()) {
            done++;
        }
        return done;
    }

    public int counter(int counter) throws IllegalArgumentException {
        checkRange(counter, 0, COUNTERS - 1);
        return program.counterAt(counter);
    }

    public boolean holds(int step) throws IndexOutOfBoundsException {
        if (step < 0 || step >= program.steps) {
            throw new IndexOutOfBoundsException("there is no such step");
        }
        return program.isCertified(step);
    }

    public int value() throws IllegalStateException {
        program.tellValue(result);
        return keep(result);
    }

    public int rises() {
        return program.risen;
    }

    // ---- figures

    public float overShare() throws NoSuchElementException {
        if (gamesKept <= 0) {
            throw new NoSuchElementException("there are no games");
        }
        int ended = 0;
        for (int k = 0; k < gamesKept; k++) {
            if (gameAt(k).hasEnded()) {
                ended++;
            }
        }
        return (float) ended / (float) gamesKept;
    }

    public double meanSize() throws NoSuchElementException {
        if (ordinalsKept <= 0) {
            throw new NoSuchElementException("there are no ordinals");
        }
        int total = 0;
        for (int k = 0; k < ordinalsKept; k++) {
            total += ordinalAt(k).used;
        }
        return (double) total / (double) ordinalsKept;
    }

    public boolean isSound() {
        for (int k = 0; k < ordinalsKept; k++) {
            Ordinal asked = ordinalAt(k);
            if (!asked.exponentsFall() || !isComparedOneWay(asked, k)) {
                return false;
            }
            Ordinal told = walk.told(asked, SOUND_ROW);
            if (asked.used > 0 && Ordinal.comparison(told, -1, asked, -1) >= 0) {
                return false;
            }
        }
        return true;
    }

    // ---- what the calls share

    private static void checkRange(int number, int least, int most) {
        if (number < least || number > most) {
            throw new IllegalArgumentException("the number is out of range");
        }
    }

    private Ordinal ordinalAt(int ordinal) {
        Ordinal found = null;
        if (ordinal >= 0 && ordinal < ordinalsKept && ordinal < ordinals.length) {
            found = ordinals[ordinal];
        }
        if (found == null) {
            throw new IndexOutOfBoundsException("there is no such ordinal");
        }
        return found;
    }

    private static int knotOf(Ordinal ordinal, int term) {
        int knot = ordinal.knotOfTerm(term);
        if (knot < 0) {
            throw new IndexOutOfBoundsException("there is no such term");
        }
        return knot;
    }

    private int keep(Ordinal made) {
        if (made.isTooGreat()) {
            throw new UnsupportedOperationException("the ordinal is too great");
        }
        if (ordinalsKept < 0 || ordinalsKept >= ordinals.length) {
            throw new IllegalStateException("there is no room for another one");
        }
        Ordinal kept = new Ordinal(made.used);
        kept.become(made);
        ordinals[ordinalsKept] = kept;
        ordinalsKept++;
        return ordinalsKept - 1;
    }

    private static int reached(boolean arrived, int answer) {
        if (!arrived || answer > MOST_REACHED) {
            throw new UnsupportedOperationException("the number is beyond reach");
        }
        return answer;
    }

    private Game gameAt(int game) {
        Game found = null;
        if (game >= 0 && game < gamesKept && game < games.length) {
            found = games[game];
        }
        if (found == null) {
            throw new IndexOutOfBoundsException("there is no such game");
        }
        return found;
    }

    private void checkRoomForGame() {
        if (gamesKept < 0 || gamesKept >= games.length) {
            throw new IllegalStateException("there is no room for another one");
        }
    }

    private int place(Game made) {
        if (gamesKept >= 0 && gamesKept < games.length) {
            games[gamesKept] = made;
            gamesKept++;
        }
        return gamesKept - 1;
    }

    private boolean isComparedOneWay(Ordinal asked, int start) {
        for (int k = start; k < ordinalsKept; k++) {
            Ordinal other = ordinalAt(k);
            int there = Ordinal.comparison(asked, -1, other, -1);
            int back = Ordinal.comparison(other, -1, asked, -1);
            if (there != -back) {
                return false;
            }
        }
        return true;
    }

    /**
     * An ordinal as a row of knots: each term is followed by the terms of its exponent, one level deeper. The knot -1
     * stands for the ordinal itself, on which its terms hang.
     */
    private static final class Ordinal {
        private final int[] levels;
        private final int[] counts;
        private int used;
        // What did not fit is lost; that there was more is enough to know, as it is too great then.
        private boolean spilt;

        Ordinal(int room) {
            int cells = room > 0 ? room : 0;
            levels = new int[cells];
            counts = new int[cells];
        }

        void clear() {
            used = 0;
            spilt = false;
        }

        int levelAt(int knot) {
            return knot >= 0 && knot < used && knot < levels.length ? levels[knot] : -1;
        }

        int countAt(int knot) {
            return knot >= 0 && knot < used && knot < counts.length ? counts[knot] : 0;
        }

        /** Returns the first knot behind all that hangs on a knot. */
        int endOf(int knot) {
            int level = levelAt(knot);
            int end = knot + 1;
            while (end < used && levelAt(end) > level) {
                end++;
            }
            return end;
        }

        boolean isBare(int knot) {
            return endOf(knot) == knot + 1;
        }

        int height() {
            int height = 0;
            for (int k = 0; k < used; k++) {
                int level = levelAt(k);
                height = level >= height ? level + 1 : height;
            }
            return height;
        }

        int countTerms() {
            int terms = 0;
            for (int k = 0; k < used; k = endOf(k)) {
                terms++;
            }
            return terms;
        }

        /** Returns the knot of a term, or -1 if there is none. */
        int knotOfTerm(int term) {
            int passed = 0;
            for (int k = 0; k < used; k = endOf(k)) {
                if (passed == term) {
                    return k;
                }
                passed++;
            }
            return -1;
        }

        boolean isTooGreat() {
            if (spilt || used > MOST_SIZE || height() > MOST_DEGREE) {
                return true;
            }
            for (int k = 0; k < used; k++) {
                if (countAt(k) > MOST_COUNT) {
                    return true;
                }
            }
            return false;
        }

        boolean exponentsFall() {
            for (int k = 0; k < used; k++) {
                int next = endOf(k);
                if (levelAt(next) == levelAt(k) && comparison(this, k, this, next) <= 0) {
                    return false;
                }
            }
            return true;
        }

        /**
         * Compares what hangs on a knot of one with what hangs on a knot of another one. Both are read side by side; a
         * count that differs is decisive only when the exponents beside it turn out to be alike.
         */
        static int comparison(Ordinal one, int knot, Ordinal two, int other) {
            int base = one.levelAt(knot) + 1;
            int otherBase = two.levelAt(other) + 1;
            int pending = 0;
            int depth = 0;
            for (int k = 1; k <= one.used + 1; k++) {
                int level = one.levelAt(knot + k) - base;
                int otherLevel = two.levelAt(other + k) - otherBase;
                level = level < 0 ? -1 : level;
                otherLevel = otherLevel < 0 ? -1 : otherLevel;
                int deeper = level > otherLevel ? level : otherLevel;
                if (pending != 0 && deeper <= depth) {
                    return pending;
                }
                if (level != otherLevel) {
                    return level > otherLevel ? 1 : -1;
                }
                if (level < 0) {
                    return 0;
                }
                int count = one.countAt(knot + k);
                int otherCount = two.countAt(other + k);
                if (count != otherCount) {
                    pending = count > otherCount ? 1 : -1;
                    depth = level;
                }
            }
            return pending;
        }

        void append(int level, long count) {
            if (used >= 0 && used < levels.length && used < counts.length) {
                levels[used] = level;
                counts[used] = capped(count);
                used++;
            } else {
                spilt = true;
            }
        }

        private void setCount(int knot, long count) {
            if (knot >= 0 && knot < used && knot < counts.length) {
                counts[knot] = capped(count);
            }
        }

        private static int capped(long count) {
            return count > MOST_COUNT ? MOST_COUNT + 1 : (int) count;
        }

        void become(Ordinal from) {
            clear();
            appendBelow(from, -1, 0);
            spilt = spilt || from.spilt;
        }

        void becomeNumber(int number) {
            clear();
            if (number > 0) {
                append(0, number);
            }
        }

        /** Appends what hangs on a knot, its terms on this level. */
        void appendBelow(Ordinal from, int knot, int level) {
            int base = from.levelAt(knot) + 1;
            int end = from.endOf(knot);
            for (int k = knot + 1; k < end; k++) {
                append(from.levelAt(k) - base + level, from.countAt(k));
            }
        }

        /** Appends the term of a knot with another count. */
        void appendTerm(Ordinal from, int knot, int level, long count) {
            append(level, count);
            appendBelow(from, knot, level + 1);
        }

        private void appendOnward(Ordinal from, int knot) {
            for (int k = knot; k < from.used; k++) {
                append(from.levelAt(k), from.countAt(k));
            }
        }

        /** Appends the sum of what hangs on both knots. */
        void appendSum(Ordinal one, int knot, Ordinal two, int other, int level) {
            if (two.isBare(other)) {
                appendBelow(one, knot, level);
                return;
            }
            int end = one.endOf(knot);
            int k = knot + 1;
            int order = 1;
            while (k < end) {
                order = comparison(one, k, two, other + 1);
                if (order <= 0) {
                    break;
                }
                appendTerm(one, k, level, one.countAt(k));
                k = one.endOf(k);
            }
            int lead = used;
            appendBelow(two, other, level);
            if (k < end && order == 0) {
                setCount(lead, (long) countAt(lead) + one.countAt(k));
            }
        }

        /** Appends the natural sum of what hangs on both knots. */
        void appendNaturalSum(Ordinal one, int knot, Ordinal two, int other, int level) {
            int end = one.endOf(knot);
            int otherEnd = two.endOf(other);
            int k = knot + 1;
            int j = other + 1;
            while (k < end || j < otherEnd) {
                int order = k >= end ? -1 : j >= otherEnd ? 1 : comparison(one, k, two, j);
                if (order > 0) {
                    appendTerm(one, k, level, one.countAt(k));
                } else if (order < 0) {
                    appendTerm(two, j, level, two.countAt(j));
                } else {
                    appendTerm(one, k, level, (long) one.countAt(k) + two.countAt(j));
                }
                k = order >= 0 ? one.endOf(k) : k;
                j = order <= 0 ? two.endOf(j) : j;
            }
        }

        void becomeProduct(Ordinal one, Ordinal two) {
            clear();
            if (one.used == 0) {
                return;
            }
            for (int k = 0; k < two.used; k = two.endOf(k)) {
                if (two.isBare(k)) {
                    appendTerm(one, 0, 0, (long) one.countAt(0) * two.countAt(k));
                    appendOnward(one, one.endOf(0));
                } else {
                    append(0, two.countAt(k));
                    appendSum(one, 0, two, k, 1);
                }
            }
        }

        /** Becomes what, behind the first one, gives the second one, which is not less. */
        void becomeRest(Ordinal one, Ordinal two) {
            clear();
            for (int k = 0; k < two.used; k = two.endOf(k)) {
                boolean alike = one.levelAt(k) == 0 && comparison(one, k, two, k) == 0;
                int left = two.countAt(k) - (alike ? one.countAt(k) : 0);
                if (left > 0) {
                    appendTerm(two, k, 0, left);
                    appendOnward(two, two.endOf(k));
                    return;
                }
            }
        }

        /** Adds omega to the power of an exponent, which swallows what is less. */
        void addPower(Ordinal exponent) {
            int knot = firstNotAbove(exponent);
            if (knot < used && comparison(this, knot, exponent, -1) == 0) {
                setCount(knot, (long) countAt(knot) + 1);
                used = endOf(knot);
            } else {
                used = knot;
                append(0, 1);
                appendBelow(exponent, -1, 1);
            }
        }

        /** Adds omega to the power of an exponent naturally, in its place among the terms. */
        void joinPower(Ordinal exponent) {
            int knot = firstNotAbove(exponent);
            if (knot < used && comparison(this, knot, exponent, -1) == 0) {
                setCount(knot, (long) countAt(knot) + 1);
            } else {
                open(knot, exponent.used + 1);
                int end = used;
                used = knot;
                append(0, 1);
                appendBelow(exponent, -1, 1);
                used = end;
            }
        }

        private int firstNotAbove(Ordinal exponent) {
            int knot = 0;
            while (knot < used && comparison(this, knot, exponent, -1) > 0) {
                knot = endOf(knot);
            }
            return knot;
        }

        private void open(int knot, int width) {
            int end = used;
            for (int k = 0; k < width; k++) {
                append(0, 0);
            }
            for (int k = end - 1; k >= knot && k >= 0; k--) {
                int moved = k + width;
                if (moved < levels.length && moved < counts.length) {
                    levels[moved] = levels[k];
                    counts[moved] = counts[k];
                }
            }
        }

        /** Takes 1 off from the front, which a term with another exponent swallows. */
        void takeOneOff() {
            if (used > 0 && isBare(0)) {
                lessen(0);
            }
        }

        /** Drops the last term if it is a number, and returns that, or 0. */
        int dropNumber() {
            int count = levelAt(used - 1) == 0 ? countAt(used - 1) : 0;
            if (count > 0) {
                used--;
            }
            return count;
        }

        /** Makes the count of a knot of the last branch less by 1; the knot goes with its last one. */
        private void lessen(int knot) {
            if (knot < 0) {
                return;
            }
            int count = countAt(knot);
            if (count > 1) {
                setCount(knot, count - 1);
            } else {
                used = knot < used ? knot : used;
            }
        }

        private int lastAt(int level) {
            for (int k = used - 1; k >= 0; k--) {
                if (levelAt(k) == level) {
                    return k;
                }
            }
            return -1;
        }

        /** Leaves the last term on a level with the count 1, all else of it as a term ahead. */
        private void partOne(int level) {
            int knot = lastAt(level);
            int count = countAt(knot);
            if (count > 1) {
                setCount(knot, count - 1);
                appendTerm(this, knot, level, 1);
            }
        }

        /**
         * Becomes what its row tells for n; tells whether that is not too great. Along the last branch each exponent is
         * a limit, but for that of the last knot but one, on which a number hangs.
         */
        boolean goDown(int n) {
            int deepest = levelAt(used - 1);
            if (deepest <= 0) {
                lessen(used - 1);
                return true;
            }
            for (int level = 0; level < deepest - 1; level++) {
                partOne(level);
            }
            if (n <= 0) {
                lessen(lastAt(deepest - 1));
            } else {
                partOne(deepest - 1);
                setCount(lastAt(deepest - 1), n);
                lessen(used - 1);
            }
            return !spilt && used <= MOST_SIZE && n <= MOST_COUNT;
        }
    }

    /** The rows on which greater reckonings are done. */
    private static final class Bench {
        private final Ordinal[] rows = new Ordinal[MOST_DEGREE + 2];
        private final Ordinal piece = new Ordinal(MOST_SIZE);
        private final Ordinal spare = new Ordinal(MOST_SIZE);
        private final int[] firstOn = new int[MOST_ROOM];
        private final int[] nextBeside = new int[MOST_ROOM];

        Bench() {
            for (int k = 0; k < rows.length; k++) {
                rows[k] = new Ordinal(MOST_SIZE);
            }
        }

        /** Returns the row of a level, which holds an ordinal while those of the deeper levels are made. */
        Ordinal rowOf(int level) {
            Ordinal found = level >= 0 && level < rows.length ? rows[level] : null;
            return found == null ? spare : found;
        }

        void multiplyNaturally(Ordinal one, Ordinal two, Ordinal product) {
            product.clear();
            for (int k = 0; k < one.used && !product.isTooGreat(); k = one.endOf(k)) {
                piece.clear();
                for (int j = 0; j < two.used; j = two.endOf(j)) {
                    piece.append(0, (long) one.countAt(k) * two.countAt(j));
                    piece.appendNaturalSum(one, k, two, j, 1);
                }
                spare.clear();
                spare.appendNaturalSum(product, -1, piece, -1, 0);
                spare.spilt = spare.spilt || piece.spilt;
                product.become(spare);
            }
        }

        void forgetTree(int knots) {
            for (int k = 0; k < knots && k < MOST_ROOM; k++) {
                firstOn[k] = -1;
                nextBeside[k] = -1;
            }
        }

        /** Notes that a knot hangs on another one, ahead of those that were noted. */
        void noteTwig(int knot, int parent) {
            if (isRoom(knot) && isRoom(parent)) {
                nextBeside[knot] = firstOn[parent];
                firstOn[parent] = knot;
            }
        }

        int firstTwig(int parent) {
            return isRoom(parent) ? firstOn[parent] : -1;
        }

        int nextTwig(int knot) {
            return isRoom(knot) ? nextBeside[knot] : -1;
        }

        private static boolean isRoom(int knot) {
            return knot >= 0 && knot < MOST_ROOM;
        }
    }

    /** Goes down from ordinals, and tells the functions that grow along the way. */
    private static final class Walk {
        private final Ordinal here = new Ordinal(WALKING_ROOM);
        private final Ordinal[] frames = new Ordinal[MOST_FRAMES];
        private final int[] pending = new int[MOST_FRAMES];
        private int open;
        private int number;
        private int uses;
        private int steps;
        private int lessened;

        Walk() {
            for (int k = 0; k < frames.length; k++) {
                frames[k] = new Ordinal(MOST_SIZE);
            }
        }

        /** Returns what the row of an ordinal tells for n, however great. */
        Ordinal told(Ordinal start, int n) {
            here.become(start);
            here.goDown(n);
            return here;
        }

        /**
         * Goes down to 0; tells whether that is within reach. The number grows with each step, by one growth from what
         * is no limit, by another one from a limit.
         */
        boolean goToZero(Ordinal start, int n, int growth, int limitGrowth, int mostSteps) {
            here.become(start);
            number = n;
            steps = 0;
            lessened = 0;
            for (int k = 0; k <= mostSteps && here.used > 0; k++) {
                int passed = here.dropNumber();
                if (passed > 0) {
                    steps += passed;
                    lessened += passed;
                    number += passed * growth;
                } else if (here.goDown(number)) {
                    steps++;
                    number += limitGrowth;
                } else {
                    return false;
                }
                if (steps > mostSteps) {
                    return false;
                }
            }
            return here.used == 0;
        }

        /**
         * Tells whether the fast function is within reach; the number is its answer then. Each frame holds an ordinal
         * and how often its function is still to be used on what is told.
         */
        boolean growFast(Ordinal start, int n) {
            here.become(start);
            number = n;
            uses = 0;
            open = 0;
            for (int k = 0; k <= MOST_USES; k++) {
                boolean isLimit = here.levelAt(here.used - 1) > 0;
                boolean isTold = isToldAtOnce();
                if (uses > MOST_USES || number > MOST_REACHED) {
                    return false;
                }
                if (isTold && open == 0) {
                    return true;
                }
                if (isTold ? !takeFrame() : !here.goDown(number) || !isLimit && number > 1 && !addFrame()) {
                    return false;
                }
            }
            return false;
        }

        /** Uses a sentence; tells whether that is the one for 0, or the number stays, or 1 is repeated. */
        private boolean isToldAtOnce() {
            uses++;
            if (here.used == 0) {
                number++;
                return true;
            }
            if (here.used == 1 && here.levelAt(0) == 0 && here.countAt(0) == 1) {
                // Each of the repeated uses, of the sentence for 0, makes it 1 more.
                uses += number;
                number += number;
                return true;
            }
            return number == 0 && here.levelAt(here.used - 1) == 0;
        }

        // A frame doubles the uses that those below it need, so that all of them are never open within reach.
        private boolean addFrame() {
            Ordinal frame = open >= 0 && open < frames.length ? frames[open] : null;
            if (frame == null || open >= pending.length) {
                return false;
            }
            frame.become(here);
            pending[open] = number - 1;
            open++;
            return true;
        }

        private boolean takeFrame() {
            int top = open - 1;
            Ordinal frame = top >= 0 && top < frames.length ? frames[top] : null;
            if (frame == null || top >= pending.length) {
                return false;
            }
            here.become(frame);
            pending[top]--;
            if (pending[top] <= 0) {
                open = top;
            }
            return true;
        }
    }

    /** The signs with which an ordinal is written. */
    private static final class Text {
        private final char[] signs = new char[MOST_SIGNS];
        private int used;

        char sign(int index) {
            return index >= 0 && index < used && index < signs.length ? signs[index] : '0';
        }

        void write(Ordinal ordinal) {
            used = 0;
            writeBelow(this, ordinal, -1, 0);
        }

        private void add(char sign) {
            if (used >= 0 && used < signs.length) {
                signs[used] = sign;
                used++;
            }
        }

        private void addDigits(int number) {
            for (int unit = 100000; unit > 0; unit /= 10) {
                if (number >= unit) {
                    add((char) ('0' + number / unit % 10));
                }
            }
        }

        private static void writeBelow(Text text, Ordinal from, int knot, int depth) {
            if (from.isBare(knot) || depth > MOST_DEGREE) {
                text.add('0');
                return;
            }
            int end = from.endOf(knot);
            for (int k = knot + 1; k < end; k = from.endOf(k)) {
                if (k > knot + 1) {
                    text.add('+');
                }
                writeTerm(text, from, k, depth);
            }
        }

        private static void writeTerm(Text text, Ordinal from, int knot, int depth) {
            int count = from.countAt(knot);
            if (from.isBare(knot)) {
                text.addDigits(count);
                return;
            }
            text.add('w');
            boolean isOne = from.endOf(knot) == knot + 2 && from.countAt(knot + 1) == 1;
            if (!isOne) {
                text.add('^');
                text.add('(');
                writeBelow(text, from, knot, depth + 1);
                text.add(')');
            }
            if (count > 1) {
                text.add('*');
                text.addDigits(count);
            }
        }
    }

    /** A game in which an ordinal falls with each move. */
    private abstract static class Game {
        int made;
        boolean great;
        boolean fell = true;
        final Ordinal ordinal = new Ordinal(MOST_SIZE);

        abstract char kind();

        abstract boolean hasEnded();

        abstract long extent();

        /** Returns how many indexes or knots there were. */
        abstract int places();

        abstract int held(int index);

        /** Makes the next move; tells whether it was made. */
        abstract boolean advance();

        /** Puts the ordinal on the first row of the bench; tells whether it is not too great. */
        abstract boolean weigh(Bench bench);

        final void weighFirst(Bench bench) {
            great = !weigh(bench);
            if (!great) {
                ordinal.become(bench.rowOf(0));
            }
        }

        /** Counts a move that was made. */
        final void settle(Bench bench) {
            made++;
            boolean wasGreat = great;
            great = !weigh(bench);
            if (great) {
                return;
            }
            Ordinal fresh = bench.rowOf(0);
            if (!wasGreat && Ordinal.comparison(fresh, -1, ordinal, -1) >= 0) {
                fell = false;
            }
            ordinal.become(fresh);
        }
    }

    /** A worm, the head of which is its last number. */
    private static final class Worm extends Game {
        private final int[] numbers = new int[MOST_ROOM];
        private int used;

        Worm(int[] told, int length) {
            for (int k = 0; k < length && k < told.length && k < MOST_ROOM; k++) {
                numbers[k] = told[k];
                used++;
            }
        }

        static boolean isWorm(int[] told, int length) {
            for (int k = 0; k < length && k < told.length; k++) {
                if (told[k] > MOST_IN_WORM) {
                    return false;
                }
            }
            return length > 0;
        }

        char kind() {
            return 'w';
        }

        boolean hasEnded() {
            return used <= 0;
        }

        long extent() {
            return used;
        }

        int places() {
            return used;
        }

        int held(int index) {
            return index >= 0 && index < used && index < MOST_ROOM ? numbers[index] : 0;
        }

        private void set(int index, int number) {
            if (index >= 0 && index < MOST_ROOM) {
                numbers[index] = number;
            }
        }

        boolean advance() {
            if (used <= 0) {
                return false;
            }
            int head = held(used - 1);
            if (head <= 0) {
                used--;
                return true;
            }
            int start = used - 1;
            while (start > 0 && held(start - 1) >= head) {
                start--;
            }
            long added = (long) (used - start) * (made + 1);
            if (used + added > MOST_ROOM) {
                return false;
            }
            set(used - 1, head - 1);
            int end = used;
            for (int copy = 0; copy <= made; copy++) {
                for (int k = start; k < end; k++) {
                    set(used, held(k));
                    used++;
                }
            }
            return true;
        }

        boolean weigh(Bench bench) {
            return weighPart(this, 0, used, 0, bench);
        }

        /** Weighs the numbers from one place up to another one, each of them less by the level, on its row. */
        private static boolean weighPart(Worm worm, int from, int to, int level, Bench bench) {
            Ordinal total = bench.rowOf(level);
            total.clear();
            if (from >= to) {
                return true;
            }
            if (level >= MOST_DEGREE) {
                return false;
            }
            int start = from;
            for (int k = from; k <= to; k++) {
                if (k < to && worm.held(k) > level) {
                    continue;
                }
                if (!weighPart(worm, start, k, level + 1, bench)) {
                    return false;
                }
                total.addPower(bench.rowOf(level + 1));
                if (total.isTooGreat()) {
                    return false;
                }
                start = k + 1;
            }
            total.takeOneOff();
            return true;
        }
    }

    /** A hydra, each knot of which hangs on one with a lower number. */
    private static final class Hydra extends Game {
        static final int GONE = -2;

        private final int[] parents = new int[MOST_ROOM];
        private final int[] hanging = new int[MOST_ROOM];
        private final int[] twins = new int[MOST_ROOM];
        private int given;
        private int living;

        Hydra(int[] told, int length) {
            parents[0] = -1;
            given = 1;
            living = 1;
            for (int k = 0; k < length && k < told.length; k++) {
                hang(told[k]);
            }
        }

        static boolean isHydra(int[] told, int length) {
            for (int k = 0; k < length && k < told.length; k++) {
                if (told[k] > k) {
                    return false;
                }
            }
            return length < MOST_BUFFERED;
        }

        char kind() {
            return 'h';
        }

        boolean hasEnded() {
            return living <= 1;
        }

        long extent() {
            return living;
        }

        int places() {
            return given;
        }

        int held(int index) {
            return index >= 0 && index < given && index < MOST_ROOM ? parents[index] : GONE;
        }

        private boolean isHead(int knot) {
            return knot > 0 && knot < given && knot < MOST_ROOM && parents[knot] != GONE && hanging[knot] == 0;
        }

        private void hang(int parent) {
            if (given < MOST_ROOM && parent >= 0 && parent < given) {
                parents[given] = parent;
                hanging[given] = 0;
                hanging[parent]++;
                given++;
                living++;
            }
        }

        private void remove(int knot) {
            int parent = held(knot);
            if (parent >= 0 && parent < MOST_ROOM && knot < MOST_ROOM) {
                parents[knot] = GONE;
                hanging[parent]--;
                living--;
            }
        }

        boolean advance() {
            for (int knot = 1; knot < given; knot++) {
                if (isHead(knot)) {
                    return cutHead(knot);
                }
            }
            return false;
        }

        /** Cuts a head as the next move; tells whether that was done. */
        boolean cutHead(int knot) {
            if (!isHead(knot)) {
                return false;
            }
            int parent = held(knot);
            if (parent <= 0) {
                remove(knot);
                return true;
            }
            int branch = markBranch(parent) - 1;
            int copies = made + 1;
            if (given + (long) branch * copies > MOST_ROOM) {
                return false;
            }
            remove(knot);
            int before = given;
            for (int k = 0; k < copies; k++) {
                copyBranch(parent, before);
            }
            return true;
        }

        /** Marks a knot and all that hangs on it, and returns how many these are. */
        private int markBranch(int top) {
            int marked = 0;
            for (int k = top; k < given; k++) {
                boolean isIn = k == top || twinOn(top, held(k)) >= 0;
                setTwin(k, isIn ? k : -1);
                marked += isIn ? 1 : 0;
            }
            return marked;
        }

        /** Hangs a copy of a knot, with all that hangs on it, beside it. */
        private void copyBranch(int top, int before) {
            int ground = held(top);
            for (int k = top; k < before; k++) {
                int place = k == top ? ground : twinOn(top, held(k));
                setTwin(k, place >= 0 ? given : -1);
                if (place >= 0) {
                    hang(place);
                }
            }
        }

        private int twinOn(int top, int parent) {
            return parent >= top && parent >= 0 && parent < MOST_ROOM ? twins[parent] : -1;
        }

        private void setTwin(int knot, int twin) {
            if (knot >= 0 && knot < MOST_ROOM) {
                twins[knot] = twin;
            }
        }

        boolean weigh(Bench bench) {
            bench.forgetTree(given);
            for (int knot = given - 1; knot > 0; knot--) {
                bench.noteTwig(knot, held(knot));
            }
            return weighKnot(0, 0, bench);
        }

        /** Weighs a knot on the row of its level. */
        private static boolean weighKnot(int knot, int level, Bench bench) {
            if (level > MOST_DEGREE) {
                return false;
            }
            Ordinal total = bench.rowOf(level);
            total.clear();
            int twig = bench.firstTwig(knot);
            for (int k = 0; k < MOST_ROOM && twig >= 0; k++) {
                if (!weighKnot(twig, level + 1, bench)) {
                    return false;
                }
                total.joinPower(bench.rowOf(level + 1));
                if (total.isTooGreat()) {
                    return false;
                }
                twig = bench.nextTwig(twig);
            }
            return true;
        }
    }

    /** A row of bases. */
    private static final class Bases extends Game {
        private long number;

        Bases(int first) {
            number = first;
        }

        char kind() {
            return 'b';
        }

        boolean hasEnded() {
            return number <= 0;
        }

        long extent() {
            return number;
        }

        int places() {
            return 0;
        }

        int held(int index) {
            return 0;
        }

        private int base() {
            return made + 2;
        }

        boolean advance() {
            if (number <= 0) {
                return false;
            }
            long next = raised(number, base(), 0) - 1;
            if (next > MOST_IN_BASES) {
                return false;
            }
            number = next;
            return true;
        }

        // Past the greatest number, 1 more than it and what is taken off, the very number is of no account.
        private static long cappedNumber(long number) {
            return number > MOST_IN_BASES + 1 ? MOST_IN_BASES + 2 : number;
        }

        /** Returns what a number becomes when each base of it becomes 1 more. */
        private static long raised(long number, int base, int depth) {
            if (base < 2 || depth > MOST_NESTED) {
                return MOST_IN_BASES + 2;
            }
            long total = 0;
            long rest = number;
            for (int place = 0; place < MOST_PLACES && rest > 0; place++) {
                long digit = rest % base;
                if (digit > 0) {
                    long power = power(base + 1, raised(place, base, depth + 1));
                    total = cappedNumber(total + digit * power);
                }
                rest /= base;
            }
            return total;
        }

        private static long power(int base, long exponent) {
            long power = 1;
            for (int k = 0; k < exponent && k < MOST_PLACES; k++) {
                power = cappedNumber(power * base);
            }
            return power;
        }

        boolean weigh(Bench bench) {
            return weighNumber(number, made + 2, 0, bench);
        }

        /** Weighs a number, written in a base, on the row of its level. */
        private static boolean weighNumber(long number, int base, int level, Bench bench) {
            Ordinal total = bench.rowOf(level);
            total.clear();
            if (number <= 0) {
                return true;
            }
            if (level >= MOST_DEGREE || base < 2) {
                return false;
            }
            int place = 0;
            long unit = 1;
            while (place < MOST_PLACES && unit <= number / base) {
                unit *= base;
                place++;
            }
            for (long rest = number; place >= 0 && unit > 0; place--) {
                long digit = rest / unit;
                rest %= unit;
                unit /= base;
                if (digit > 0) {
                    if (!weighNumber(place, base, level + 1, bench)) {
                        return false;
                    }
                    total.append(0, digit);
                    total.appendBelow(bench.rowOf(level + 1), -1, 1);
                }
            }
            return !total.isTooGreat();
        }
    }

    /** Tells whether hydras embed in one another. */
    private static final class Embedding {
        private final int[] parents = new int[MOST_EMBEDDED];
        private final int[] otherParents = new int[MOST_EMBEDDED];
        private final int[] places = new int[MOST_ROOM];
        private final boolean[] inOrAbove = new boolean[MOST_EMBEDDED * MOST_EMBEDDED];
        private final int[] matches = new int[MOST_EMBEDDED];
        private final boolean[] tried = new boolean[MOST_EMBEDDED];
        private int knots;
        private int otherKnots;

        boolean find(Hydra one, Hydra two) {
            knots = read(one, parents);
            otherKnots = read(two, otherParents);
            for (int x = knots - 1; x >= 0; x--) {
                for (int y = otherKnots - 1; y >= 0; y--) {
                    note(x, y, isAboveTwig(x, y) || isIn(x, y));
                }
            }
            return isNoted(0, 0);
        }

        /** Reads on which knot each one hangs, with the knots that are not gone numbered anew. */
        private int read(Hydra hydra, int[] into) {
            int living = 0;
            for (int k = 0; k < hydra.given && k < places.length && living < into.length; k++) {
                int parent = hydra.held(k);
                if (parent != Hydra.GONE) {
                    into[living] = parent >= 0 && parent < k ? places[parent] : -1;
                    places[k] = living;
                    living++;
                }
            }
            return living;
        }

        private static boolean isKnot(int knot) {
            return knot >= 0 && knot < MOST_EMBEDDED;
        }

        private void note(int x, int y, boolean embeds) {
            if (isKnot(x) && isKnot(y)) {
                inOrAbove[x * MOST_EMBEDDED + y] = embeds;
            }
        }

        private boolean isNoted(int x, int y) {
            return isKnot(x) && isKnot(y) && inOrAbove[x * MOST_EMBEDDED + y];
        }

        private boolean hangsOn(int twig, int parent) {
            return isKnot(twig) && parents[twig] == parent;
        }

        private boolean otherHangsOn(int twig, int parent) {
            return isKnot(twig) && otherParents[twig] == parent;
        }

        private boolean isAboveTwig(int x, int y) {
            for (int twig = y + 1; twig < otherKnots; twig++) {
                if (otherHangsOn(twig, y) && isNoted(x, twig)) {
                    return true;
                }
            }
            return false;
        }

        private boolean isIn(int x, int y) {
            for (int k = 0; k < matches.length; k++) {
                matches[k] = -1;
            }
            for (int twig = x + 1; twig < knots; twig++) {
                if (!hangsOn(twig, x)) {
                    continue;
                }
                for (int k = 0; k < tried.length; k++) {
                    tried[k] = false;
                }
                if (!give(this, twig, y, 0)) {
                    return false;
                }
            }
            return true;
        }

        /** Gives a knot to one that hangs on y, where those given before may move on to others. */
        private static boolean give(Embedding all, int twig, int y, int depth) {
            if (depth > MOST_EMBEDDED) {
                return false;
            }
            for (int k = y + 1; k < all.otherKnots && k < MOST_EMBEDDED; k++) {
                if (all.tried[k] || !all.otherHangsOn(k, y) || !all.isNoted(twig, k)) {
                    continue;
                }
                all.tried[k] = true;
                if (all.matches[k] < 0 || give(all, all.matches[k], y, depth + 1)) {
                    all.matches[k] = twig;
                    return true;
                }
            }
            return false;
        }
    }

    /** A program over counters, and the order that certifies that it ends. */
    private static final class Program {
        private final int[] counters = new int[COUNTERS];
        private final int[] before = new int[COUNTERS];
        private final int[] ranks = new int[COUNTERS];
        private int order = FIRST_ORDER;
        private final int[] guards = new int[MOST_STEPS];
        private final int[] firsts = new int[MOST_STEPS];
        private final int[] tos = new int[MOST_STEPS];
        private final int[] seconds = new int[MOST_STEPS];
        private final int[] toOthers = new int[MOST_STEPS];
        private int steps;
        private int risen;

        Program() {
            for (int k = 0; k < COUNTERS; k++) {
                ranks[k] = k;
            }
        }

        private static boolean isCounter(int counter) {
            return counter >= 0 && counter < COUNTERS;
        }

        private static boolean isStep(int step) {
            return step >= 0 && step < MOST_STEPS;
        }

        int counterAt(int counter) {
            return isCounter(counter) ? counters[counter] : 0;
        }

        int change(int counter, int value) {
            int was = counterAt(counter);
            if (isCounter(counter)) {
                counters[counter] = value;
            }
            return was;
        }

        int append(int guard, int first, int to, int second, int toOther) {
            int step = steps;
            if (isStep(step)) {
                guards[step] = guard;
                firsts[step] = first;
                tos[step] = to;
                seconds[step] = second;
                toOthers[step] = toOther;
                steps++;
            }
            return step;
        }

        static boolean isOrder(int order) {
            int seen = 0;
            int rest = order;
            for (int k = 0; k < COUNTERS; k++) {
                int digit = rest % 10;
                rest /= 10;
                seen |= isCounter(digit) ? 1 << digit : 0;
            }
            return seen == (1 << COUNTERS) - 1;
        }

        int reorder(int fresh) {
            int was = order;
            order = fresh;
            int rest = fresh;
            for (int rank = COUNTERS - 1; rank >= 0; rank--) {
                int digit = rest % 10;
                rest /= 10;
                if (isCounter(digit)) {
                    ranks[digit] = rank;
                }
            }
            return was;
        }

        private int rankOf(int counter) {
            return isCounter(counter) ? ranks[counter] : COUNTERS;
        }

        boolean isCertified(int step) {
            if (!isStep(step)) {
                return false;
            }
            int rank = rankOf(guards[step]);
            return rankOf(firsts[step]) > rank && rankOf(seconds[step]) > rank;
        }

        /** Does the first step that can be done; tells whether there was one. */
        boolean doRound() {
            for (int step = 0; step < steps && isStep(step); step++) {
                if (counterAt(guards[step]) >= 1) {
                    doStep(step);
                    return true;
                }
            }
            return false;
        }

        private void doStep(int step) {
            if (!isStep(step)) {
                return;
            }
            for (int k = 0; k < COUNTERS; k++) {
                before[k] = counters[k];
            }
            change(guards[step], counterAt(guards[step]) - 1);
            change(firsts[step], told(tos[step]));
            change(seconds[step], told(toOthers[step]));
            if (!isLess()) {
                risen++;
            }
        }

        private int told(int to) {
            int counter = -1 - to;
            return isCounter(counter) ? before[counter] : to;
        }

        /** Tells whether the value is less than it was before: the greatest counter that differs decides. */
        private boolean isLess() {
            int decisive = -1;
            for (int k = 0; k < COUNTERS; k++) {
                if (counters[k] != before[k] && (decisive < 0 || ranks[k] < ranks[decisive])) {
                    decisive = k;
                }
            }
            return decisive >= 0 && counters[decisive] < before[decisive];
        }

        void tellValue(Ordinal into) {
            into.clear();
            for (int rank = 0; rank < COUNTERS; rank++) {
                for (int k = 0; k < COUNTERS; k++) {
                    if (ranks[k] == rank && counters[k] > 0) {
                        into.append(0, counters[k]);
                        appendNumber(into, COUNTERS - 1 - rank);
                    }
                }
            }
        }

        private static void appendNumber(Ordinal into, int exponent) {
            if (exponent > 0) {
                into.append(1, exponent);
            }
        }
    }
}
