/** Portrait miniatures by mixed doubles; ../shared/DOC.md says what each method promises. */
public final class HalfFaces {
    public static final int UNKNOWN = -1000001;
    public static final int BAD_VALUE = -1000002;
    public static final int FULL = -1000003;
    public static final int NOT_POSSIBLE = -1000004;
    public static final int NONE = -1000005;

    private static final int FAULT_AT_START = -1000100;

    private static final int ROWS = 6;
    private static final int COLUMNS = 6;
    private static final int HALF_COLUMNS = 3;
    private static final int SITTER_CELLS = ROWS * COLUMNS;
    private static final int HALF_CELLS = ROWS * HALF_COLUMNS;
    private static final int TONES = 10;

    // The halves are numbered through: those of the left painters, then those of the right ones.
    private static final int PAINTERS = 4;
    private static final int HALVES = 2 * PAINTERS;

    private static final int TOLERANCES = 10;
    private static final int FIRST_TOLERANCE = 1;
    private static final int FIRST_MINUTES = 60;
    private static final int MOST_MINUTES = 200;

    private static final int FULL_LIKENESS = 1000;
    private static final int LIKENESS_OF_AN_ERROR = 5;
    private static final int LIKENESS_OF_A_BREAK = 50;
    private static final int LEAST_LIKENESS_FOR_A_PRIZE = 500;
    private static final int BELOW_EVERY_SUM = -1000000;
    private static final int[] PRIZES = {100, 50, 20, 0};

    private final State state;
    private final History history;
    private final State snapshot;
    private boolean hasSnapshot;
    private final Text text;
    private final BestPairs best;
    private final Ranking ranking;

    public HalfFaces() {
        state = new State();
        history = new History();
        snapshot = new State();
        hasSnapshot = false;
        text = new Text();
        best = new BestPairs();
        ranking = new Ranking();
    }

    // ---- the sitter, settings.

    public int sit(int row, int column, int tone) {
        if (!isBelow(row, ROWS) || !isBelow(column, COLUMNS)) {
            return UNKNOWN;
        }
        if (!isBelow(tone, TONES)) {
            return BAD_VALUE;
        }
        return change(State.SITTER + row * COLUMNS + column, tone);
    }

    public int set(int what, int value) {
        if (what == 0 && isBelow(value, TOLERANCES)) {
            return change(State.TOLERANCE, value);
        }
        if (what == 1 && areMinutes(value)) {
            return change(State.HOUR_MINUTES, value);
        }
        return BAD_VALUE;
    }

    // ---- painting.

    public int paint(boolean right, int painter, int row, int column, int tone) {
        if (!isCell(painter, row, column)) {
            return UNKNOWN;
        }
        if (!isBelow(tone, TONES)) {
            return BAD_VALUE;
        }
        int half = halfOf(right, painter);
        int cell = row * HALF_COLUMNS + column;
        int needed = Math.abs(tone - state.halfTone(half, cell));
        if (needed > state.minutesOf(half)) {
            return NOT_POSSIBLE;
        }
        if (needed == 0) {
            return NONE;
        }
        history.remember(state);
        state.setHalfTone(half, cell, tone);
        state.useMinutes(half, needed);
        return state.minutesOf(half);
    }

    public int correct(boolean right, int painter, int minutes) {
        if (!isBelow(painter, PAINTERS)) {
            return UNKNOWN;
        }
        if (!areMinutes(minutes)) {
            return BAD_VALUE;
        }
        int half = halfOf(right, painter);
        int steps = Math.min(Math.min(minutes, state.minutesOf(half)), state.halfError(half));
        if (steps == 0) {
            return NONE;
        }
        history.remember(state);
        for (int step = 0; step < steps; step++) {
            state.improveWorstCell(half);
        }
        state.useMinutes(half, steps);
        return steps;
    }

    public int copy(boolean right, int painter, int other) {
        if (!isBelow(painter, PAINTERS) || !isBelow(other, PAINTERS)) {
            return UNKNOWN;
        }
        int half = halfOf(right, painter);
        int model = halfOf(right, other);
        int needed = state.distance(half, model);
        if (needed > state.minutesOf(half)) {
            return NOT_POSSIBLE;
        }
        if (needed == 0) {
            return NONE;
        }
        history.remember(state);
        state.useMinutes(half, needed);
        return state.takeHalfOver(half, model);
    }

    public int hour() {
        history.remember(state);
        return state.passHour();
    }

    public int readRows() {
        int fault = text.fault();
        if (fault != Text.NO_FAULT) {
            return FAULT_AT_START - fault;
        }
        history.remember(state);
        return text.writeRows(state);
    }

    // ---- pairs, shows.

    public int pair(int left, int right) {
        if (!isBelow(left, PAINTERS) || !isBelow(right, PAINTERS)) {
            return UNKNOWN;
        }
        int formerRight = state.rightOf(left);
        if (formerRight == right) {
            return NONE;
        }
        int formerLeft = state.leftOf(right);
        history.remember(state);
        state.setRightOf(left, right);
        state.setRightOf(formerLeft, formerRight);
        return state.likeness(left, right);
    }

    public int pairBest() {
        best.find(state);
        int others = 0;
        for (int left = 0; left < PAINTERS; left++) {
            if (best.rightOf(left) != state.rightOf(left)) {
                others++;
            }
        }
        if (others == 0) {
            return NONE;
        }
        history.remember(state);
        for (int left = 0; left < PAINTERS; left++) {
            state.setRightOf(left, best.rightOf(left));
        }
        return others;
    }

    public int show() {
        history.remember(state);
        ranking.rank(state);
        int prized = 0;
        for (int rank = 0; rank < PAINTERS; rank++) {
            int prize = ranking.prizeAt(rank);
            if (prize > 0) {
                state.givePrize(ranking.leftAt(rank), prize);
                prized++;
            }
        }
        state.countShow();
        return prized;
    }

    // ---- texts.

    public int type(char character) {
        return text.append(character) ? text.length() : FULL;
    }

    public int clearText() {
        int length = text.length();
        text.empty();
        return length;
    }

    // ---- history.

    public int undo() {
        return history.recall(state) ? history.size() : NONE;
    }

    public int keep() {
        snapshot.become(state);
        hasSnapshot = true;
        return state.number(State.SHOWS);
    }

    public int restore() {
        if (!hasSnapshot) {
            return NONE;
        }
        history.remember(state);
        state.become(snapshot);
        return state.number(State.SHOWS);
    }

    // ---- what is told.

    public int sitter(int row, int column) {
        if (!isBelow(row, ROWS) || !isBelow(column, COLUMNS)) {
            return UNKNOWN;
        }
        return state.sitterTone(row, column);
    }

    public int tone(boolean right, int painter, int row, int column) {
        if (!isCell(painter, row, column)) {
            return UNKNOWN;
        }
        return state.halfTone(halfOf(right, painter), row * HALF_COLUMNS + column);
    }

    public int painter(boolean right, int painter, int what) {
        if (!isBelow(painter, PAINTERS)) {
            return UNKNOWN;
        }
        int half = halfOf(right, painter);
        switch (what) {
            case 0:
                return state.minutesOf(half);
            case 1:
                return state.halfError(half);
            case 2:
                return right ? state.leftOf(painter) : state.rightOf(painter);
            case 3:
                return state.coinsOf(half);
            case 4:
                return state.cellError(half, state.worstCell(half));
            case 5:
                return state.worstCell(half) / HALF_COLUMNS;
            case 6:
                return state.worstCell(half) % HALF_COLUMNS;
            case 7:
                return state.cellsWithoutError(half);
            default:
                return BAD_VALUE;
        }
    }

    public int face(int left, int right, int what) {
        if (!isBelow(left, PAINTERS) || !isBelow(right, PAINTERS)) {
            return UNKNOWN;
        }
        switch (what) {
            case 0:
                return state.likeness(left, right);
            case 1:
                return state.breaks(left, right);
            case 2:
                return state.firstBreak(left, right);
            case 3:
                return state.distanceAtLine(left, right);
            default:
                return BAD_VALUE;
        }
    }

    public int bestFor(int left) {
        if (!isBelow(left, PAINTERS)) {
            return UNKNOWN;
        }
        best.find(state);
        return best.rightOf(left);
    }

    public int ranked(int rank, int what) {
        if (!isBelow(rank, PAINTERS)) {
            return BAD_VALUE;
        }
        ranking.rank(state);
        switch (what) {
            case 0:
                return ranking.leftAt(rank);
            case 1:
                return ranking.likenessAt(rank);
            case 2:
                return ranking.prizeAt(rank);
            default:
                return BAD_VALUE;
        }
    }

    public int count(int what) {
        switch (what) {
            case 0:
                return state.number(State.TOLERANCE);
            case 1:
                return state.number(State.HOUR_MINUTES);
            case 2:
                return state.number(State.HOURS);
            case 3:
                return state.number(State.SHOWS);
            case 4:
                return state.allCoins();
            case 5:
                return state.allBreaks();
            case 6:
                return state.allLikeness();
            case 7:
                best.find(state);
                return best.sum();
            case 8:
                return state.allErrors();
            case 9:
                return history.size();
            case 10:
                return text.length();
            default:
                return BAD_VALUE;
        }
    }

    private static boolean isBelow(int number, int bound) {
        return number >= 0 && number < bound;
    }

    private static boolean areMinutes(int number) {
        return number >= 1 && number <= MOST_MINUTES;
    }

    private static boolean isCell(int painter, int row, int column) {
        return isBelow(painter, PAINTERS) && isBelow(row, ROWS) && isBelow(column, HALF_COLUMNS);
    }

    private static int halfOf(boolean right, int painter) {
        return right ? PAINTERS + painter : painter;
    }

    private int change(int place, int value) {
        int previous = state.number(place);
        if (previous == value) {
            return NONE;
        }
        history.remember(state);
        state.setNumber(place, value);
        return previous;
    }

    /** All that an act can change, in one row of numbers, so that no copy of it can miss a part. */
    private static final class State {
        private static final int SITTER = 0;
        private static final int HALF_TONES = SITTER + SITTER_CELLS;
        private static final int MINUTES = HALF_TONES + HALVES * HALF_CELLS;
        private static final int COINS = MINUTES + HALVES;
        private static final int RIGHTS = COINS + HALVES;
        private static final int TOLERANCE = RIGHTS + PAINTERS;
        private static final int HOUR_MINUTES = TOLERANCE + 1;
        private static final int HOURS = HOUR_MINUTES + 1;
        private static final int SHOWS = HOURS + 1;
        private static final int SIZE = SHOWS + 1;

        private final int[] numbers = new int[SIZE];

        private State() {
            for (int half = 0; half < HALVES; half++) {
                numbers[MINUTES + half] = FIRST_MINUTES;
            }
            for (int left = 0; left < PAINTERS; left++) {
                numbers[RIGHTS + left] = left;
            }
            numbers[TOLERANCE] = FIRST_TOLERANCE;
            numbers[HOUR_MINUTES] = FIRST_MINUTES;
        }

        private void become(State other) {
            System.arraycopy(other.numbers, 0, numbers, 0, SIZE);
        }

        private int number(int place) {
            return numbers[place];
        }

        private void setNumber(int place, int value) {
            numbers[place] = value;
        }

        private int sitterTone(int row, int column) {
            return numbers[SITTER + row * COLUMNS + column];
        }

        private void setSitterTone(int row, int column, int tone) {
            numbers[SITTER + row * COLUMNS + column] = tone;
        }

        private int halfTone(int half, int cell) {
            return numbers[HALF_TONES + half * HALF_CELLS + cell];
        }

        private void setHalfTone(int half, int cell, int tone) {
            numbers[HALF_TONES + half * HALF_CELLS + cell] = tone;
        }

        private int dueTone(int half, int cell) {
            int firstColumn = half < PAINTERS ? 0 : HALF_COLUMNS;
            return sitterTone(cell / HALF_COLUMNS, firstColumn + cell % HALF_COLUMNS);
        }

        private int cellError(int half, int cell) {
            return Math.abs(halfTone(half, cell) - dueTone(half, cell));
        }

        private int halfError(int half) {
            int sum = 0;
            for (int cell = 0; cell < HALF_CELLS; cell++) {
                sum += cellError(half, cell);
            }
            return sum;
        }

        private int worstCell(int half) {
            int worst = 0;
            int greatest = 0;
            for (int cell = 0; cell < HALF_CELLS; cell++) {
                int error = cellError(half, cell);
                if (error > greatest) {
                    greatest = error;
                    worst = cell;
                }
            }
            return worst;
        }

        private int cellsWithoutError(int half) {
            int cells = 0;
            for (int cell = 0; cell < HALF_CELLS; cell++) {
                if (cellError(half, cell) == 0) {
                    cells++;
                }
            }
            return cells;
        }

        private void improveWorstCell(int half) {
            int cell = worstCell(half);
            int tone = halfTone(half, cell);
            int due = dueTone(half, cell);
            if (tone < due) {
                setHalfTone(half, cell, tone + 1);
            } else if (tone > due) {
                setHalfTone(half, cell, tone - 1);
            }
        }

        private int distance(int half, int other) {
            int sum = 0;
            for (int cell = 0; cell < HALF_CELLS; cell++) {
                sum += Math.abs(halfTone(half, cell) - halfTone(other, cell));
            }
            return sum;
        }

        private int takeHalfOver(int half, int model) {
            int changed = 0;
            for (int cell = 0; cell < HALF_CELLS; cell++) {
                int tone = halfTone(model, cell);
                if (halfTone(half, cell) != tone) {
                    setHalfTone(half, cell, tone);
                    changed++;
                }
            }
            return changed;
        }

        private int minutesOf(int half) {
            return numbers[MINUTES + half];
        }

        private void useMinutes(int half, int minutes) {
            numbers[MINUTES + half] -= minutes;
        }

        private int passHour() {
            int left = 0;
            for (int half = 0; half < HALVES; half++) {
                left += numbers[MINUTES + half];
                numbers[MINUTES + half] = numbers[HOUR_MINUTES];
            }
            numbers[HOURS]++;
            return left;
        }

        private int rightOf(int left) {
            return numbers[RIGHTS + left];
        }

        private void setRightOf(int left, int right) {
            numbers[RIGHTS + left] = right;
        }

        private int leftOf(int right) {
            int left = 0;
            while (left < PAINTERS - 1 && rightOf(left) != right) {
                left++;
            }
            return left;
        }

        private int stepAtLine(int left, int right, int row) {
            int leftTone = halfTone(left, row * HALF_COLUMNS + HALF_COLUMNS - 1);
            return halfTone(PAINTERS + right, row * HALF_COLUMNS) - leftTone;
        }

        private int sitterStepAtLine(int row) {
            return sitterTone(row, HALF_COLUMNS) - sitterTone(row, HALF_COLUMNS - 1);
        }

        private boolean isBreak(int left, int right, int row) {
            int step = stepAtLine(left, right, row);
            return Math.abs(step) > numbers[TOLERANCE] && step != sitterStepAtLine(row);
        }

        private int breaks(int left, int right) {
            int breaks = 0;
            for (int row = 0; row < ROWS; row++) {
                if (isBreak(left, right, row)) {
                    breaks++;
                }
            }
            return breaks;
        }

        private int firstBreak(int left, int right) {
            for (int row = 0; row < ROWS; row++) {
                if (isBreak(left, right, row)) {
                    return row;
                }
            }
            return NONE;
        }

        private int distanceAtLine(int left, int right) {
            int sum = 0;
            for (int row = 0; row < ROWS; row++) {
                sum += Math.abs(stepAtLine(left, right, row));
            }
            return sum;
        }

        private int likeness(int left, int right) {
            int errors = halfError(left) + halfError(PAINTERS + right);
            return FULL_LIKENESS - LIKENESS_OF_AN_ERROR * errors - LIKENESS_OF_A_BREAK * breaks(left, right);
        }

        private int coinsOf(int half) {
            return numbers[COINS + half];
        }

        private void givePrize(int left, int prize) {
            numbers[COINS + left] += prize / 2;
            numbers[COINS + PAINTERS + rightOf(left)] += prize / 2;
        }

        private void countShow() {
            numbers[SHOWS]++;
        }

        private int allCoins() {
            int sum = 0;
            for (int half = 0; half < HALVES; half++) {
                sum += coinsOf(half);
            }
            return sum;
        }

        private int allBreaks() {
            int sum = 0;
            for (int left = 0; left < PAINTERS; left++) {
                sum += breaks(left, rightOf(left));
            }
            return sum;
        }

        private int allLikeness() {
            int sum = 0;
            for (int left = 0; left < PAINTERS; left++) {
                sum += likeness(left, rightOf(left));
            }
            return sum;
        }

        private int allErrors() {
            int sum = 0;
            for (int half = 0; half < HALVES; half++) {
                sum += halfError(half);
            }
            return sum;
        }
    }

    /** The latest states, the oldest first, one behind the other in one row. */
    private static final class History {
        private static final int MOST_STATES = 4;

        private final int[] numbers = new int[MOST_STATES * State.SIZE];
        private int size;

        private int size() {
            return size;
        }

        private void remember(State state) {
            if (size == MOST_STATES) {
                dropOldest();
            }
            System.arraycopy(state.numbers, 0, numbers, size * State.SIZE, State.SIZE);
            size++;
        }

        private void dropOldest() {
            System.arraycopy(numbers, State.SIZE, numbers, 0, (MOST_STATES - 1) * State.SIZE);
            size = MOST_STATES - 1;
        }

        private boolean recall(State state) {
            if (size == 0) {
                return false;
            }
            size--;
            System.arraycopy(numbers, size * State.SIZE, state.numbers, 0, State.SIZE);
            return true;
        }
    }

    /** The typed text and its reading as rows. */
    private static final class Text {
        private static final int NO_FAULT = -1;
        private static final int MOST_CHARACTERS = 60;

        // Each sign of a form is the highest digit of its place, or stands for itself ('L' for 'R' too).
        private static final String SITTER_FORM = "5:999999";
        private static final String HALF_FORM = "L35:999";
        private static final int SITTER_TONES_AT = 2;
        private static final int HALF_TONES_AT = 4;

        private final char[] characters = new char[MOST_CHARACTERS];
        private int length;

        private int length() {
            return length;
        }

        private void empty() {
            length = 0;
        }

        private boolean append(char character) {
            if (length >= MOST_CHARACTERS) {
                return false;
            }
            characters[length] = character;
            length++;
            return true;
        }

        // Behind the end stands a character that is allowed nowhere: a text that ends too early has its fault there.
        private char characterAt(int index) {
            return index >= 0 && index < length ? characters[index] : (char) 0;
        }

        private boolean isHalfAt(int index) {
            return characterAt(index) == 'L' || characterAt(index) == 'R';
        }

        private String formAt(int index) {
            return isHalfAt(index) ? HALF_FORM : SITTER_FORM;
        }

        private static boolean isAllowed(char character, char sign) {
            if (sign == 'L') {
                return character == 'L' || character == 'R';
            }
            if (sign == ':') {
                return character == ':';
            }
            return character >= '0' && character <= sign;
        }

        private int fault() {
            for (int start = 0; start <= length; start += formAt(start).length() + 1) {
                int end = start + formAt(start).length();
                int fault = entryFault(start);
                if (fault != NO_FAULT) {
                    return fault;
                }
                if (end == length) {
                    return NO_FAULT;
                }
                if (characterAt(end) != ',') {
                    return end;
                }
            }
            return NO_FAULT;
        }

        private int entryFault(int start) {
            String form = formAt(start);
            for (int place = 0; place < form.length(); place++) {
                if (!isAllowed(characterAt(start + place), form.charAt(place))) {
                    return start + place;
                }
            }
            return NO_FAULT;
        }

        // The text has no fault when this is called.
        private int writeRows(State state) {
            int entries = 0;
            for (int start = 0; start < length; start += formAt(start).length() + 1) {
                if (isHalfAt(start)) {
                    writeHalfRow(state, start);
                } else {
                    writeSitterRow(state, start);
                }
                entries++;
            }
            return entries;
        }

        private void writeSitterRow(State state, int start) {
            int row = digitAt(start);
            for (int column = 0; column < COLUMNS; column++) {
                state.setSitterTone(row, column, digitAt(start + SITTER_TONES_AT + column));
            }
        }

        private void writeHalfRow(State state, int start) {
            int half = halfOf(characterAt(start) == 'R', digitAt(start + 1));
            int firstCell = digitAt(start + 2) * HALF_COLUMNS;
            for (int column = 0; column < HALF_COLUMNS; column++) {
                state.setHalfTone(half, firstCell + column, digitAt(start + HALF_TONES_AT + column));
            }
        }

        private int digitAt(int index) {
            return characterAt(index) - '0';
        }
    }

    /** The pairs with the greatest sum of likeness, as they were when last looked for. */
    private static final class BestPairs {
        private final int[] likenesses = new int[PAINTERS * PAINTERS];
        private final int[] rights = new int[PAINTERS];
        private int sum;

        private int sum() {
            return sum;
        }

        private int rightOf(int left) {
            return rights[left];
        }

        private void find(State state) {
            for (int left = 0; left < PAINTERS; left++) {
                for (int right = 0; right < PAINTERS; right++) {
                    likenesses[left * PAINTERS + right] = state.likeness(left, right);
                }
            }
            sum = BELOW_EVERY_SUM;
            for (int first = 0; first < PAINTERS; first++) {
                for (int second = 0; second < PAINTERS; second++) {
                    if (second != first) {
                        tryWith(first, second);
                    }
                }
            }
        }

        // The pairs come in the order that decides between equal sums, so only a greater sum may take their place.
        private void tryWith(int first, int second) {
            for (int third = 0; third < PAINTERS; third++) {
                if (third != first && third != second) {
                    int fourth = 0 + 1 + 2 + 3 - first - second - third;
                    int found = likenesses[first] + likenesses[PAINTERS + second]
                            + likenesses[2 * PAINTERS + third] + likenesses[3 * PAINTERS + fourth];
                    if (found > sum) {
                        sum = found;
                        rights[0] = first;
                        rights[1] = second;
                        rights[2] = third;
                        rights[3] = fourth;
                    }
                }
            }
        }
    }

    /** The faces of the pairs in the order of their likeness, as it was when last looked for. */
    private static final class Ranking {
        private final int[] lefts = new int[PAINTERS];
        private final int[] likenesses = new int[PAINTERS];

        private int leftAt(int rank) {
            return lefts[rank];
        }

        private int likenessAt(int rank) {
            return likenesses[rank];
        }

        private int prizeAt(int rank) {
            return likenesses[rank] < LEAST_LIKENESS_FOR_A_PRIZE ? 0 : PRIZES[rank];
        }

        private void rank(State state) {
            for (int left = 0; left < PAINTERS; left++) {
                insert(left, state.likeness(left, state.rightOf(left)));
            }
        }

        // The lower left painters are in already, so one of equal likeness comes behind them.
        private void insert(int left, int likeness) {
            int rank = left;
            while (rank > 0 && likenesses[rank - 1] < likeness) {
                lefts[rank] = lefts[rank - 1];
                likenesses[rank] = likenesses[rank - 1];
                rank--;
            }
            lefts[rank] = left;
            likenesses[rank] = likeness;
        }
    }
}
