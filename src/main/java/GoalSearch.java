/**
 * Expressions that generate results: an expression is put together from parts, begun, and asked
 * for one result after another, with variables and written values that change on the way.
 */
public final class GoalSearch {
    private static final int LEAF_KINDS = 2;
    private static final int UNARY_KINDS = 4;
    private static final int BINARY_KINDS = 12;
    private static final int TERNARY_KINDS = 2;

    private static final int WRONG_NUMBER = -1;
    private static final int NO_EXPRESSION = -2;
    private static final int NOT_FREE = -3;
    private static final int NO_ROOM = -4;
    private static final int TOO_DEEP = -5;

    private static final int FREE_MARK = 32;
    private static final int MOST_FUEL = 2000;
    private static final int MOST_SKIPPED = 100;
    private static final long NOT_WRITTEN = 4294967296L;

    private final Search search;
    private final Forest forest;

    public GoalSearch() {
        search = new Search();
        forest = search.forest;
    }

    public int leaf(int kind, int v) {
        if (!isBelow(kind, LEAF_KINDS)) {
            return WRONG_NUMBER;
        }
        int made = Forest.FIRST_LEAF + kind;
        if (made == Forest.VARIABLE && !isBelow(v, Search.VARIABLES)) {
            return WRONG_NUMBER;
        }
        if (forest.isFull()) {
            return NO_ROOM;
        }
        return forest.addLeaf(made, v);
    }

    public int unary(int kind, int k, int x) {
        if (!isBelow(kind, UNARY_KINDS)) {
            return WRONG_NUMBER;
        }
        int made = Forest.FIRST_UNARY + kind;
        if (made == Forest.ASSIGN && !isBelow(k, Search.VARIABLES)) {
            return WRONG_NUMBER;
        }
        return join(made, k, x, x, x, false);
    }

    public int binary(int kind, int x, int y) {
        if (!isBelow(kind, BINARY_KINDS)) {
            return WRONG_NUMBER;
        }
        return join(Forest.FIRST_BINARY + kind, 0, x, y, y, x == y);
    }

    public int ternary(int kind, int x, int y, int z) {
        if (!isBelow(kind, TERNARY_KINDS)) {
            return WRONG_NUMBER;
        }
        return join(Forest.FIRST_TERNARY + kind, 0, x, y, z, x == y || y == z || x == z);
    }

    public int expressions() {
        return forest.count;
    }

    public int about(int x) {
        if (!forest.has(x)) {
            return NO_EXPRESSION;
        }
        return forest.depth[x] + (forest.free[x] ? FREE_MARK : 0);
    }

    public int set(int n, int v) {
        if (!isBelow(n, Search.VARIABLES)) {
            return 0;
        }
        int before = search.variables[n];
        search.variables[n] = v;
        return before;
    }

    public int variable(int n) {
        return isBelow(n, Search.VARIABLES) ? search.variables[n] : 0;
    }

    public int begin(int x, int fuel) {
        if (!forest.has(x)) {
            return NO_EXPRESSION;
        }
        if (!forest.free[x]) {
            return NOT_FREE;
        }
        if (!isBelow(fuel, MOST_FUEL + 1)) {
            return WRONG_NUMBER;
        }
        search.open(x, fuel);
        return 0;
    }

    public int next() {
        return search.proceed();
    }

    public int skip(int n) {
        if (n > MOST_SKIPPED) {
            return 0;
        }
        int came = 0;
        while (came < n && search.proceed() == Search.RESULT) {
            came++;
        }
        return came;
    }

    public int value() {
        return search.latest;
    }

    public int writes() {
        return search.writeCount;
    }

    public long written(int i) {
        return isBelow(i, search.writeCount) ? search.wrote[i] : NOT_WRITTEN;
    }

    public int cost() {
        return search.spent;
    }

    private static boolean isBelow(int number, int bound) {
        return number >= 0 && number < bound;
    }

    /** A kind with fewer than three parts names its last part again in the places that it lacks. */
    private int join(int kind, int number, int x, int y, int z, boolean partTwice) {
        if (!forest.has(x) || !forest.has(y) || !forest.has(z)) {
            return NO_EXPRESSION;
        }
        if (partTwice || !forest.free[x] || !forest.free[y] || !forest.free[z]) {
            return NOT_FREE;
        }
        if (forest.isFull()) {
            return NO_ROOM;
        }
        if (forest.depthOver(x, y, z) > Forest.MOST_DEPTH) {
            return TOO_DEEP;
        }
        return forest.addOver(kind, number, x, y, z);
    }

    /**
     * The expressions that were made and how they hang together. Every part has a lower number
     * than what it is a part of, and no expression is a part twice, so that they form trees.
     */
    private static final class Forest {
        static final int MOST = 60;
        static final int MOST_DEPTH = 12;

        static final int FIRST_LEAF = 0;
        static final int NUMBER = 0;
        static final int VARIABLE = 1;

        static final int FIRST_UNARY = 2;
        static final int ASSIGN = 2;
        static final int WRITE = 3;
        static final int NOT = 4;
        static final int AGAIN = 5;

        static final int FIRST_BINARY = 6;
        static final int EITHER = 6;
        static final int AND = 7;
        static final int PLUS = 8;
        static final int MINUS = 9;
        static final int TIMES = 10;
        static final int LESS = 11;
        static final int EQUAL = 12;
        static final int OTHER = 13;
        static final int LIMIT = 14;
        static final int EVERY = 15;
        static final int WHILE = 16;
        static final int THEN = 17;

        static final int FIRST_TERNARY = 18;
        static final int TO = 18;
        static final int IF = 19;

        final int[] kind = new int[MOST];
        /** The value of a NUMBER, the variable of a VARIABLE or an ASSIGN. */
        final int[] number = new int[MOST];
        final int[] partX = new int[MOST];
        final int[] partY = new int[MOST];
        final int[] partZ = new int[MOST];
        final int[] depth = new int[MOST];
        final boolean[] free = new boolean[MOST];
        int count = 0;

        boolean has(int e) {
            return isBelow(e, count);
        }

        boolean isFull() {
            return count >= MOST;
        }

        int depthOver(int x, int y, int z) {
            return 1 + Math.max(depth[x], Math.max(depth[y], depth[z]));
        }

        int addLeaf(int madeKind, int madeNumber) {
            int made = count;
            kind[made] = madeKind;
            number[made] = madeNumber;
            depth[made] = 1;
            free[made] = true;
            count++;
            return made;
        }

        int addOver(int madeKind, int madeNumber, int x, int y, int z) {
            int made = addLeaf(madeKind, madeNumber);
            partX[made] = x;
            partY[made] = y;
            partZ[made] = z;
            depth[made] = depthOver(x, y, z);
            free[x] = false;
            free[y] = false;
            free[z] = false;
            return made;
        }
    }

    /**
     * The asking of the expression that was begun, with what it changes. Methods that ask answer
     * RESULT, FAILED or an error below 0; the result itself then lies in the row of results, where
     * it stays till that expression is asked again. They call one another once for each level of
     * an expression, and no expression is deeper than Forest.MOST_DEPTH.
     */
    private static final class Search {
        static final int VARIABLES = 8;

        static final int RESULT = 1;
        static final int FAILED = 0;
        private static final int NOTHING_BEGUN = -1;
        private static final int STEP_ZERO = -3;
        private static final int NO_INT = -4;
        private static final int OUT_OF_FUEL = -5;
        private static final int TOO_MANY_WRITES = -6;

        private static final int MOST_WRITES = 32;

        /** A turn after a loop's first costs fuel or is its last, so no loop gets near this. */
        private static final int MOST_TURNS = 1000000;

        private static final int FRESH = 0;
        private static final int IN_X = 1;
        private static final int IN_Y = 2;
        private static final int IN_Z = 3;
        private static final int IN_VALUES = 4;
        private static final int DONE = 5;

        final Forest forest = new Forest();
        /** Which part each expression would go on with when it is asked. */
        private final int[] stage = new int[Forest.MOST];
        private final int[] result = new int[Forest.MOST];
        /** For a LIMIT how often it may still ask, for a TO its current value. */
        private final long[] counter = new long[Forest.MOST];

        final int[] variables = new int[VARIABLES];
        final int[] wrote = new int[MOST_WRITES];
        int writeCount = 0;
        int spent = 0;
        int latest = 0;
        private int fuel = 0;
        private int begun = 0;
        private int lastAnswer = NOTHING_BEGUN;

        void open(int e, int givenFuel) {
            start(e);
            begun = e;
            fuel = givenFuel;
            spent = 0;
            writeCount = 0;
            latest = 0;
            lastAnswer = RESULT;
        }

        int proceed() {
            if (lastAnswer != RESULT) {
                return lastAnswer;
            }
            lastAnswer = ask(begun);
            if (lastAnswer == RESULT) {
                latest = result[begun];
            }
            return lastAnswer;
        }

        private void start(int e) {
            stage[e] = FRESH;
        }

        private int tryOnce(int e) {
            start(e);
            return ask(e);
        }

        private int ask(int e) {
            switch (forest.kind[e]) {
                case Forest.NUMBER:
                    return askLeaf(e, forest.number[e]);
                case Forest.VARIABLE:
                    return askLeaf(e, variables[forest.number[e]]);
                case Forest.ASSIGN:
                    return askAssign(e);
                case Forest.WRITE:
                    return askWrite(e);
                case Forest.NOT:
                    return askNot(e);
                case Forest.AGAIN:
                    return askAgain(e);
                case Forest.EITHER:
                    return askEither(e);
                case Forest.AND:
                    return handUp(e, forest.partY[e], askPair(e));
                case Forest.PLUS:
                case Forest.MINUS:
                case Forest.TIMES:
                    return askArithmetic(e);
                case Forest.LESS:
                case Forest.EQUAL:
                case Forest.OTHER:
                    return askComparison(e);
                case Forest.LIMIT:
                    return askLimit(e);
                case Forest.EVERY:
                case Forest.WHILE:
                    return askEveryOrWhile(e);
                case Forest.THEN:
                    return askThen(e);
                case Forest.TO:
                    return askTo(e);
                case Forest.IF:
                    return askIf(e);
                default:
                    return FAILED;
            }
        }

        private int give(int e, int given) {
            result[e] = given;
            return RESULT;
        }

        private int giveForFuel(int e, int given) {
            if (spent >= fuel) {
                return OUT_OF_FUEL;
            }
            spent++;
            return give(e, given);
        }

        private int handUp(int e, int part, int answer) {
            return answer == RESULT ? give(e, result[part]) : answer;
        }

        private int askLeaf(int e, int given) {
            if (stage[e] != FRESH) {
                return FAILED;
            }
            stage[e] = DONE;
            return giveForFuel(e, given);
        }

        private int askX(int e) {
            if (stage[e] == FRESH) {
                start(forest.partX[e]);
            }
            stage[e] = IN_X;
            return ask(forest.partX[e]);
        }

        private int askAssign(int e) {
            int answer = handUp(e, forest.partX[e], askX(e));
            if (answer == RESULT) {
                variables[forest.number[e]] = result[e];
            }
            return answer;
        }

        private int askWrite(int e) {
            int answer = handUp(e, forest.partX[e], askX(e));
            if (answer != RESULT) {
                return answer;
            }
            if (writeCount >= MOST_WRITES) {
                return TOO_MANY_WRITES;
            }
            wrote[writeCount] = result[e];
            writeCount++;
            return RESULT;
        }

        private int askNot(int e) {
            if (stage[e] != FRESH) {
                return FAILED;
            }
            stage[e] = DONE;
            int answer = tryOnce(forest.partX[e]);
            if (answer == RESULT) {
                return FAILED;
            }
            return answer == FAILED ? give(e, 0) : answer;
        }

        private int askAgain(int e) {
            int x = forest.partX[e];
            // Only after a result is anything asked again, so x gave one since its latest start.
            boolean gaveBefore = stage[e] != FRESH;
            int answer = askX(e);
            if (answer == FAILED && gaveBefore) {
                answer = tryOnce(x);
            }
            return handUp(e, x, answer);
        }

        private int askEither(int e) {
            int y = forest.partY[e];
            if (stage[e] != IN_Y) {
                int answer = askX(e);
                if (answer != FAILED) {
                    return handUp(e, forest.partX[e], answer);
                }
                stage[e] = IN_Y;
                start(y);
            }
            return handUp(e, y, ask(y));
        }

        /** Goes on to the next result of x with a result of y. */
        private int askPair(int e) {
            int y = forest.partY[e];
            for (int turn = 0; turn < MOST_TURNS; turn++) {
                if (stage[e] != IN_Y) {
                    int answer = askX(e);
                    if (answer != RESULT) {
                        return answer;
                    }
                    stage[e] = IN_Y;
                    start(y);
                }
                int answer = ask(y);
                if (answer != FAILED) {
                    return answer;
                }
                stage[e] = IN_X;
            }
            return FAILED;
        }

        private int askArithmetic(int e) {
            int answer = askPair(e);
            if (answer != RESULT) {
                return answer;
            }
            long exact = calculate(forest.kind[e], result[forest.partX[e]], result[forest.partY[e]]);
            return exact == (int) exact ? give(e, (int) exact) : NO_INT;
        }

        private static long calculate(int kind, long r, long s) {
            if (kind == Forest.PLUS) {
                return r + s;
            }
            return kind == Forest.MINUS ? r - s : r * s;
        }

        private int askComparison(int e) {
            int y = forest.partY[e];
            for (int turn = 0; turn < MOST_TURNS; turn++) {
                int answer = askPair(e);
                if (answer != RESULT) {
                    return answer;
                }
                if (holds(forest.kind[e], result[forest.partX[e]], result[y])) {
                    return give(e, result[y]);
                }
            }
            return FAILED;
        }

        private static boolean holds(int kind, int r, int s) {
            if (kind == Forest.LESS) {
                return r < s;
            }
            return (kind == Forest.EQUAL) == (r == s);
        }

        private int askLimit(int e) {
            int x = forest.partX[e];
            for (int turn = 0; turn < MOST_TURNS; turn++) {
                if (stage[e] != IN_X) {
                    int answer = askBound(e);
                    if (answer != RESULT) {
                        return answer;
                    }
                    stage[e] = IN_X;
                    start(x);
                }
                if (counter[e] > 0) {
                    counter[e]--;
                    int answer = ask(x);
                    if (answer != FAILED) {
                        return handUp(e, x, answer);
                    }
                }
                stage[e] = IN_Y;
            }
            return FAILED;
        }

        private int askBound(int e) {
            int y = forest.partY[e];
            if (stage[e] == FRESH) {
                start(y);
            }
            int answer = ask(y);
            counter[e] = result[y];
            return answer;
        }

        /** Both try y after each result of x; EVERY then asks x on, WHILE starts it anew. */
        private int askEveryOrWhile(int e) {
            boolean startsAnew = forest.kind[e] == Forest.WHILE;
            for (int turn = 0; turn < MOST_TURNS; turn++) {
                int answer = startsAnew ? tryOnce(forest.partX[e]) : askX(e);
                if (answer != RESULT) {
                    return answer;
                }
                answer = tryOnce(forest.partY[e]);
                if (answer < FAILED) {
                    return answer;
                }
            }
            return FAILED;
        }

        private int askThen(int e) {
            int y = forest.partY[e];
            if (stage[e] == FRESH) {
                int answer = tryOnce(forest.partX[e]);
                if (answer < FAILED) {
                    return answer;
                }
                stage[e] = IN_Y;
                start(y);
            }
            return handUp(e, y, ask(y));
        }

        private int askIf(int e) {
            if (stage[e] == FRESH) {
                int answer = tryOnce(forest.partX[e]);
                if (answer < FAILED) {
                    return answer;
                }
                stage[e] = answer == RESULT ? IN_Y : IN_Z;
                start(branch(e));
            }
            return handUp(e, branch(e), ask(branch(e)));
        }

        private int branch(int e) {
            return stage[e] == IN_Y ? forest.partY[e] : forest.partZ[e];
        }

        private int askTo(int e) {
            for (int turn = 0; turn < MOST_TURNS; turn++) {
                if (stage[e] == IN_VALUES) {
                    counter[e] += result[forest.partZ[e]];
                } else {
                    int answer = askTriple(e);
                    if (answer != RESULT) {
                        return answer;
                    }
                    if (result[forest.partZ[e]] == 0) {
                        return STEP_ZERO;
                    }
                    counter[e] = result[forest.partX[e]];
                    stage[e] = IN_VALUES;
                }
                if (isUpToEnd(e)) {
                    return giveForFuel(e, (int) counter[e]);
                }
                stage[e] = IN_Z;
            }
            return FAILED;
        }

        private boolean isUpToEnd(int e) {
            int end = result[forest.partY[e]];
            return result[forest.partZ[e]] > 0 ? counter[e] <= end : counter[e] >= end;
        }

        /** Goes on to the next result of x with a result of y and a result of z. */
        private int askTriple(int e) {
            int z = forest.partZ[e];
            for (int turn = 0; turn < MOST_TURNS; turn++) {
                if (stage[e] != IN_Z) {
                    int answer = askPair(e);
                    if (answer != RESULT) {
                        return answer;
                    }
                    stage[e] = IN_Z;
                    start(z);
                }
                int answer = ask(z);
                if (answer != FAILED) {
                    return answer;
                }
                stage[e] = IN_Y;
            }
            return FAILED;
        }
    }
}
