import java.util.ArrayDeque;
import java.util.ArrayList;
import java.util.Deque;
import java.util.List;
import java.util.regex.Matcher;
import java.util.regex.Pattern;

/** The document told a second time, without regard to room or speed, to compare HalfFaces with. */
final class PlainModel {
    private static final String ENTRY = "(?:[0-5]:[0-9]{6}|[LR][0-3][0-5]:[0-9]{3})";
    private static final Pattern ROWS = Pattern.compile(ENTRY + "(?:," + ENTRY + ")*", Pattern.DOTALL);

    private static final class State {
        int[][] sitter = new int[6][6];
        int[][][][] halves = new int[2][4][6][3];
        int[][] minutes = {{60, 60, 60, 60}, {60, 60, 60, 60}};
        int[][] coins = new int[2][4];
        int[] pairs = {0, 1, 2, 3};
        int tolerance = 1;
        int hourMinutes = 60;
        int hours = 0;
        int shows = 0;

        State copied() {
            State s = new State();
            for (int row = 0; row < 6; row++) {
                s.sitter[row] = sitter[row].clone();
            }
            for (int side = 0; side < 2; side++) {
                s.minutes[side] = minutes[side].clone();
                s.coins[side] = coins[side].clone();
                for (int p = 0; p < 4; p++) {
                    for (int row = 0; row < 6; row++) {
                        s.halves[side][p][row] = halves[side][p][row].clone();
                    }
                }
            }
            s.pairs = pairs.clone();
            s.tolerance = tolerance;
            s.hourMinutes = hourMinutes;
            s.hours = hours;
            s.shows = shows;
            return s;
        }
    }

    private State now = new State();
    private final Deque<State> history = new ArrayDeque<>();
    private State snapshot = null;
    private String text = "";

    private void act() {
        history.addLast(now.copied());
        if (history.size() > 4) {
            history.removeFirst();
        }
    }

    private static boolean out(int number, int greatest) {
        return number < 0 || number > greatest;
    }

    private static int side(boolean right) {
        return right ? 1 : 0;
    }

    int sit(int row, int column, int tone) {
        if (out(row, 5) || out(column, 5)) {
            return -1000001;
        }
        if (out(tone, 9)) {
            return -1000002;
        }
        int old = now.sitter[row][column];
        if (old == tone) {
            return -1000005;
        }
        act();
        now.sitter[row][column] = tone;
        return old;
    }

    int set(int what, int value) {
        if (out(what, 1) || (what == 0 ? out(value, 9) : value < 1 || value > 200)) {
            return -1000002;
        }
        int old = what == 0 ? now.tolerance : now.hourMinutes;
        if (old == value) {
            return -1000005;
        }
        act();
        if (what == 0) {
            now.tolerance = value;
        } else {
            now.hourMinutes = value;
        }
        return old;
    }

    int paint(boolean right, int p, int row, int column, int tone) {
        if (out(p, 3) || out(row, 5) || out(column, 2)) {
            return -1000001;
        }
        if (out(tone, 9)) {
            return -1000002;
        }
        int takes = Math.abs(now.halves[side(right)][p][row][column] - tone);
        if (takes > now.minutes[side(right)][p]) {
            return -1000004;
        }
        if (takes == 0) {
            return -1000005;
        }
        act();
        now.halves[side(right)][p][row][column] = tone;
        return now.minutes[side(right)][p] -= takes;
    }

    private int error(int side, int p, int row, int column) {
        return Math.abs(now.halves[side][p][row][column] - now.sitter[row][3 * side + column]);
    }

    private int[] worst(int side, int p) {
        int[] worst = {0, 0};
        for (int greatest = 9; greatest > 0; greatest--) {
            for (int row = 0; row < 6; row++) {
                for (int column = 0; column < 3; column++) {
                    if (error(side, p, row, column) == greatest) {
                        return new int[] {row, column};
                    }
                }
            }
        }
        return worst;
    }

    int correct(boolean right, int p, int minutes) {
        if (out(p, 3)) {
            return -1000001;
        }
        if (minutes < 1 || minutes > 200) {
            return -1000002;
        }
        int side = side(right);
        State before = now.copied();
        int used = 0;
        while (used < minutes && now.minutes[side][p] > 0) {
            int[] cell = worst(side, p);
            int wish = now.sitter[cell[0]][3 * side + cell[1]];
            int is = now.halves[side][p][cell[0]][cell[1]];
            if (is == wish) {
                break;
            }
            now.halves[side][p][cell[0]][cell[1]] += is < wish ? 1 : -1;
            now.minutes[side][p]--;
            used++;
        }
        if (used == 0) {
            return -1000005;
        }
        State after = now;
        now = before;
        act();
        now = after;
        return used;
    }

    int copy(boolean right, int p, int other) {
        if (out(p, 3) || out(other, 3)) {
            return -1000001;
        }
        int side = side(right);
        int takes = 0;
        int cells = 0;
        int[][] model = new int[6][];
        for (int row = 0; row < 6; row++) {
            model[row] = now.halves[side][other][row].clone();
            for (int column = 0; column < 3; column++) {
                int apart = Math.abs(model[row][column] - now.halves[side][p][row][column]);
                takes += apart;
                cells += apart > 0 ? 1 : 0;
            }
        }
        if (now.minutes[side][p] < takes) {
            return -1000004;
        }
        if (cells == 0) {
            return -1000005;
        }
        act();
        now.halves[side][p] = model;
        now.minutes[side][p] -= takes;
        return cells;
    }

    int hour() {
        act();
        int sum = 0;
        for (int i = 0; i < 8; i++) {
            sum += now.minutes[i / 4][i % 4];
            now.minutes[i / 4][i % 4] = now.hourMinutes;
        }
        now.hours++;
        return sum;
    }

    int readRows() {
        if (!ROWS.matcher(text).matches()) {
            int viable = 0;
            for (int end = 0; end <= text.length(); end++) {
                Matcher m = ROWS.matcher(text.substring(0, end));
                if (m.matches() || m.hitEnd()) {
                    viable = end;
                }
            }
            return -1000100 - viable;
        }
        act();
        String[] entries = text.split(",");
        for (String entry : entries) {
            String head = entry.substring(0, entry.indexOf(':'));
            String tones = entry.substring(entry.indexOf(':') + 1);
            for (int i = 0; i < tones.length(); i++) {
                int tone = tones.charAt(i) - '0';
                if (head.length() == 1) {
                    now.sitter[Integer.parseInt(head)][i] = tone;
                } else {
                    now.halves[head.startsWith("R") ? 1 : 0][head.charAt(1) - '0'][head.charAt(2) - '0'][i] = tone;
                }
            }
        }
        return entries.length;
    }

    int pair(int left, int right) {
        if (out(left, 3) || out(right, 3)) {
            return -1000001;
        }
        if (now.pairs[left] == right) {
            return -1000005;
        }
        act();
        for (int other = 0; other < 4; other++) {
            if (now.pairs[other] == right) {
                now.pairs[other] = now.pairs[left];
                break;
            }
        }
        now.pairs[left] = right;
        return likeness(left, right);
    }

    private boolean isBreak(int left, int right, int row) {
        int a = now.halves[0][left][row][2];
        int b = now.halves[1][right][row][0];
        return Math.abs(a - b) > now.tolerance && a - b != now.sitter[row][2] - now.sitter[row][3];
    }

    private int breaks(int left, int right) {
        int breaks = 0;
        for (int row = 0; row < 6; row++) {
            breaks += isBreak(left, right, row) ? 1 : 0;
        }
        return breaks;
    }

    private int halfError(int side, int p) {
        int sum = 0;
        for (int cell = 0; cell < 18; cell++) {
            sum += error(side, p, cell / 3, cell % 3);
        }
        return sum;
    }

    private int likeness(int left, int right) {
        return 1000 - 5 * (halfError(0, left) + halfError(1, right)) - 50 * breaks(left, right);
    }

    private int sum(int[] pairs) {
        int sum = 0;
        for (int left = 0; left < 4; left++) {
            sum += likeness(left, pairs[left]);
        }
        return sum;
    }

    private int[] best() {
        int[] best = null;
        for (int code = 0; code < 256; code++) {
            int[] pairs = {code / 64, code / 16 % 4, code / 4 % 4, code % 4};
            boolean all = true;
            for (int right = 0; right < 4; right++) {
                all &= pairs[0] == right || pairs[1] == right || pairs[2] == right || pairs[3] == right;
            }
            if (all && (best == null || sum(pairs) > sum(best))) {
                best = pairs;
            }
        }
        return best;
    }

    int pairBest() {
        int[] best = best();
        int others = 0;
        for (int left = 0; left < 4; left++) {
            others += best[left] == now.pairs[left] ? 0 : 1;
        }
        if (others == 0) {
            return -1000005;
        }
        act();
        now.pairs = best;
        return others;
    }

    private List<Integer> ranking() {
        List<Integer> lefts = new ArrayList<>(List.of(0, 1, 2, 3));
        lefts.sort((a, b) -> likeness(b, now.pairs[b]) - likeness(a, now.pairs[a]));
        return lefts;
    }

    private int prize(int rank) {
        int left = ranking().get(rank);
        return likeness(left, now.pairs[left]) < 500 ? 0 : List.of(100, 50, 20, 0).get(rank);
    }

    int show() {
        act();
        int faces = 0;
        for (int rank = 0; rank < 3; rank++) {
            int left = ranking().get(rank);
            now.coins[0][left] += prize(rank) / 2;
            now.coins[1][now.pairs[left]] += prize(rank) / 2;
            faces += prize(rank) > 0 ? 1 : 0;
        }
        now.shows++;
        return faces;
    }

    int type(char c) {
        if (text.length() == 60) {
            return -1000003;
        }
        text += c;
        return text.length();
    }

    int clearText() {
        int length = text.length();
        text = "";
        return length;
    }

    int undo() {
        if (history.isEmpty()) {
            return -1000005;
        }
        now = history.removeLast();
        return history.size();
    }

    int keep() {
        snapshot = now.copied();
        return now.shows;
    }

    int restore() {
        if (snapshot == null) {
            return -1000005;
        }
        act();
        now = snapshot.copied();
        return now.shows;
    }

    int sitter(int row, int column) {
        return out(row, 5) || out(column, 5) ? -1000001 : now.sitter[row][column];
    }

    int tone(boolean right, int p, int row, int column) {
        return out(p, 3) || out(row, 5) || out(column, 2) ? -1000001 : now.halves[side(right)][p][row][column];
    }

    int painter(boolean right, int p, int what) {
        if (out(p, 3)) {
            return -1000001;
        }
        if (out(what, 7)) {
            return -1000002;
        }
        int side = side(right);
        int other = now.pairs[p];
        for (int left = 0; right && left < 4; left++) {
            other = now.pairs[left] == p ? left : other;
            if (now.pairs[left] == p) {
                break;
            }
        }
        int[] worst = worst(side, p);
        int right0 = 0;
        for (int cell = 0; cell < 18; cell++) {
            right0 += error(side, p, cell / 3, cell % 3) == 0 ? 1 : 0;
        }
        return new int[] {now.minutes[side][p], halfError(side, p), other, now.coins[side][p],
            error(side, p, worst[0], worst[1]), worst[0], worst[1], right0}[what];
    }

    int face(int left, int right, int what) {
        if (out(left, 3) || out(right, 3)) {
            return -1000001;
        }
        if (out(what, 3)) {
            return -1000002;
        }
        int first = -1000005;
        int apart = 0;
        for (int row = 5; row >= 0; row--) {
            first = isBreak(left, right, row) ? row : first;
            apart += Math.abs(now.halves[0][left][row][2] - now.halves[1][right][row][0]);
        }
        return new int[] {likeness(left, right), breaks(left, right), first, apart}[what];
    }

    int bestFor(int left) {
        return out(left, 3) ? -1000001 : best()[left];
    }

    int ranked(int rank, int what) {
        if (out(rank, 3) || out(what, 2)) {
            return -1000002;
        }
        int left = ranking().get(rank);
        return new int[] {left, likeness(left, now.pairs[left]), prize(rank)}[what];
    }

    int count(int what) {
        if (out(what, 10)) {
            return -1000002;
        }
        int coins = 0;
        int errors = 0;
        int breaks = 0;
        for (int i = 0; i < 8; i++) {
            coins += now.coins[i / 4][i % 4];
            errors += halfError(i / 4, i % 4);
            breaks += i < 4 ? breaks(i, now.pairs[i]) : 0;
        }
        return new int[] {now.tolerance, now.hourMinutes, now.hours, now.shows, coins, breaks, sum(now.pairs),
            sum(best()), errors, history.size(), text.length()}[what];
    }
}
