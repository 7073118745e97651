import java.util.ArrayList;
import java.util.Arrays;
import java.util.List;

/** The edges that the document's "Terms" and "What it is" name, one by one. */
public final class EdgesTest {
    private static final Check CHECK = new Check();
    private static final List<int[]> PAIRINGS = pairings();
    private static final String FULL_TEXT = "0:111111,1:222222,2:333333,3:444444,4:555555,L10:678,R35:901";

    public static void main(String[] args) {
        exactlyTheMinutes();
        hoursOfAllSizes();
        hourWithoutMinutes();
        correctEndsWithMinutes();
        correctGoesRound();
        toleranceIsNoBreak();
        apartLikeTheSitter();
        leastLikeness();
        everyBestPairs();
        bestPairsOfEqual();
        bestPairsOfTwoEqual();
        prizedFaces();
        fourthFaceGetsNone();
        prizesOfEqual();
        fullText();
        everyLengthOfText();
        firstFaultIsTold();
        historyFromEmptyToFull();
        snapshotStays();
        lastCalls();
        CHECK.end();
    }

    private static void exactlyTheMinutes() {
        for (int minutes = 1; minutes <= 9; minutes++) {
            HalfFaces x = new HalfFaces();
            x.set(1, minutes);
            x.hour();
            if (minutes < 9) {
                int more = minutes + 1;
                CHECK.due(more + " of " + minutes, x.paint(true, 0, 0, 0, more), HalfFaces.NOT_POSSIBLE);
            }
            CHECK.due("exactly " + minutes, x.paint(true, 0, 0, 0, minutes), 0);
            CHECK.due("copy with exactly " + minutes, x.copy(true, 1, 0), 1);
            CHECK.due("the minutes then", x.painter(true, 1, 0), 0);
            x.paint(true, 2, 0, 0, 1);
            CHECK.due("copy with one too few", x.copy(true, 2, 3), minutes == 1 ? HalfFaces.NOT_POSSIBLE : 1);
        }
        HalfFaces x = Check.with(new HalfFaces(), "L00:999,L01:999,L02:999,L03:999,L04:999,L05:999");
        x.set(1, 161);
        x.hour();
        CHECK.due("copy of 162 with 161", x.copy(false, 1, 0), HalfFaces.NOT_POSSIBLE);
        x.set(1, 162);
        x.hour();
        CHECK.due("copy of 162 with 162", x.copy(false, 1, 0), 18);
        CHECK.due("the minutes then", x.painter(false, 1, 0), 0);
    }

    private static void hoursOfAllSizes() {
        HalfFaces x = new HalfFaces();
        x.set(1, 1);
        CHECK.due("more was left than an hour has", x.hour(), 480);
        CHECK.due("as many as an hour has", x.painter(false, 0, 0), 1);
        x.set(1, 200);
        CHECK.due("less was left", x.hour(), 8);
        CHECK.due("as many as an hour has", x.painter(true, 3, 0), 200);
        CHECK.due("as much was left", x.hour(), 1600);
        CHECK.due("not more than an hour has", x.painter(true, 3, 0), 200);
        CHECK.due("hours", x.count(2), 3);
        CHECK.due("no shows", x.count(3), 0);
    }

    private static void hourWithoutMinutes() {
        HalfFaces x = new HalfFaces();
        x.set(1, 1);
        x.hour();
        for (int painter = 0; painter < 4; painter++) {
            x.paint(false, painter, 5, 2, 1);
            x.paint(true, painter, 0, 0, 1);
        }
        CHECK.due("no minutes were left", x.hour(), 0);
        CHECK.due("an hour has passed", x.count(2), 2);
        CHECK.due("the minutes then", x.hour(), 8);
    }

    private static void correctEndsWithMinutes() {
        HalfFaces x = Check.with(new HalfFaces(), "0:900000");
        x.set(1, 4);
        x.hour();
        CHECK.due("5 of 4 minutes", x.correct(false, 0, 5), 4);
        CHECK.due("the tone then", x.tone(false, 0, 0, 0), 4);
        CHECK.due("4 of 4 minutes", x.correct(false, 1, 4), 4);
        CHECK.due("3 of 4 minutes", x.correct(false, 2, 3), 3);
        CHECK.due("1 of 1 minute", x.correct(false, 2, 2), 1);
        CHECK.due("no minute left", x.correct(false, 2, 1), HalfFaces.NONE);
        CHECK.due("the right side has no error", x.correct(true, 0, 200), HalfFaces.NONE);
    }

    private static void correctGoesRound() {
        String[] rows = {"0:000202,5:000020", "R10:040"};
        HalfFaces x = Check.with(new HalfFaces(), rows);
        // The errors of the right half 1 are 2, 4 and 2 in the row 0, and 2 in the row 5.
        int[][] dueAfterStep = {{0, 3, 0, 0}, {0, 2, 0, 0}, {1, 2, 0, 0}, {1, 1, 0, 0}, {1, 1, 1, 0}, {1, 1, 1, 1},
            {2, 1, 1, 1}, {2, 0, 1, 1}, {2, 0, 2, 1}, {2, 0, 2, 2}};
        for (int step = 1; step <= dueAfterStep.length; step++) {
            CHECK.due("step " + step, x.correct(true, 1, 1), 1);
            HalfFaces atOnce = Check.with(new HalfFaces(), rows);
            CHECK.due(step + " steps at once", atOnce.correct(true, 1, step), step);
            for (int cell = 0; cell < 4; cell++) {
                int row = cell < 3 ? 0 : 5;
                int column = cell < 3 ? cell : 1;
                int due = dueAfterStep[step - 1][cell];
                CHECK.due("cell " + cell + " after step " + step, x.tone(true, 1, row, column), due);
                CHECK.due("cell " + cell + " after " + step + " at once", atOnce.tone(true, 1, row, column), due);
            }
        }
        CHECK.due("no error is left", x.correct(true, 1, 1), HalfFaces.NONE);
    }

    private static void toleranceIsNoBreak() {
        for (int tolerance = 0; tolerance <= 9; tolerance++) {
            for (int apart = 0; apart <= 9; apart++) {
                HalfFaces x = Check.with(new HalfFaces(), "L25:00" + apart + ",R14:" + apart + "00");
                x.set(0, tolerance);
                int breaks = apart > tolerance ? 1 : 0;
                String at = apart + " apart, tolerance " + tolerance;
                CHECK.due(at + ", down", x.face(2, 3, 1), breaks);
                CHECK.due(at + ", up", x.face(3, 1, 1), breaks);
                CHECK.due(at + ", both", x.face(2, 1, 1), 2 * breaks);
                CHECK.due(at + ", the first row", x.face(2, 1, 2), breaks == 0 ? HalfFaces.NONE : 4);
                CHECK.due(at + ", the sum", x.face(2, 1, 3), 2 * apart);
            }
        }
    }

    private static void apartLikeTheSitter() {
        for (int sitter = 0; sitter < 10; sitter++) {
            for (int painted = 0; painted < 10; painted++) {
                HalfFaces x = Check.with(new HalfFaces(), "3:00" + sitter + "500,L13:00" + painted + ",R13:500");
                boolean isBreak = Math.abs(painted - 5) > 1 && painted != sitter;
                String downOrUp = "a sitter of " + sitter + " 5, halves of " + painted + " 5";
                CHECK.due(downOrUp, x.face(1, 1, 1), isBreak ? 1 : 0);
                x = Check.with(new HalfFaces(), "3:002600,L13:00" + sitter + ",R13:" + painted + "00");
                isBreak = Math.abs(painted - sitter) > 1 && painted != sitter + 4;
                String up = "a sitter of 2 6, halves of " + sitter + " " + painted;
                CHECK.due(up, x.face(1, 1, 1), isBreak ? 1 : 0);
            }
        }
    }

    /** Each cell of every half is as far from the sitter as can be, and each row of each face is a break. */
    private static HalfFaces worstFaces() {
        HalfFaces x = Check.with(new HalfFaces(), "0:000999,1:000999,2:000999,3:000999,4:000999,5:000999");
        for (int painter = 0; painter < 4; painter++) {
            StringBuilder rows = new StringBuilder();
            for (int row = 0; row < 6; row++) {
                rows.append(row == 0 ? "" : ",").append("L").append(painter).append(row).append(":999");
            }
            Check.with(x, rows.toString());
        }
        return x;
    }

    private static void leastLikeness() {
        HalfFaces x = worstFaces();
        for (int face = 0; face < 16; face++) {
            CHECK.due("the least likeness", x.face(face / 4, face % 4, 0), 1000 - 5 * 324 - 300);
            CHECK.due("the most breaks", x.face(face / 4, face % 4, 1), 6);
            CHECK.due("the first one", x.face(face / 4, face % 4, 2), 0);
            CHECK.due("the greatest sum", x.face(face / 4, face % 4, 3), 54);
        }
        CHECK.due("pair answers it", x.pair(2, 0), -920);
        CHECK.due("ranked answers it", x.ranked(0, 1), -920);
        CHECK.due("all breaks", x.count(5), 24);
        CHECK.due("all likeness", x.count(6), -3680);
        CHECK.due("that of the best pairs", x.count(7), -3680);
        CHECK.due("all errors", x.count(8), 1296);
        for (int left = 0; left < 4; left++) {
            CHECK.due("the lowest of the equal pairs", x.bestFor(left), left);
        }
        CHECK.due("pairBest", x.pairBest(), 2);
        CHECK.due("a show without prizes", x.show(), 0);
        CHECK.due("no coins", x.count(4), 0);
    }

    /** All pairs that there can be, in the order that decides between equal sums. */
    private static List<int[]> pairings() {
        List<int[]> all = new ArrayList<>();
        for (int code = 0; code < 256; code++) {
            int[] rights = {code / 64, code / 16 % 4, code / 4 % 4, code % 4};
            if (Arrays.stream(rights).distinct().count() == 4) {
                all.add(rights);
            }
        }
        return all;
    }

    private static int displaced(int[] rights) {
        int count = 0;
        for (int left = 0; left < 4; left++) {
            count += rights[left] == left ? 0 : 1;
        }
        return count == 0 ? HalfFaces.NONE : count;
    }

    private static void pairsDue(String at, HalfFaces x, int[] rights) {
        for (int left = 0; left < 4; left++) {
            CHECK.due(at + ", the right one of " + left, x.painter(false, left, 2), rights[left]);
            CHECK.due(at + ", the left one of " + rights[left], x.painter(true, rights[left], 2), left);
            CHECK.due(at + ", bestFor " + left, x.bestFor(left), rights[left]);
        }
    }

    private static void everyBestPairs() {
        CHECK.due("the pairings", PAIRINGS.size(), 24);
        for (int number = 0; number < PAIRINGS.size(); number++) {
            int[] rights = PAIRINGS.get(number);
            StringBuilder lefts = new StringBuilder("5:000000");
            StringBuilder others = new StringBuilder("5:000000");
            for (int left = 0; left < 4; left++) {
                lefts.append(",L").append(left).append("5:00").append(2 * left + 1);
                others.append(",R").append(rights[left]).append("5:").append(2 * left + 1).append("00");
            }
            HalfFaces x = Check.with(new HalfFaces(), lefts.toString(), others.toString());
            CHECK.due("pairing " + number, x.pairBest(), displaced(rights));
            pairsDue("pairing " + number, x, rights);
            CHECK.due("pairing " + number + " has no break", x.count(5), 0);
            CHECK.due("pairing " + number + " is the best", x.pairBest(), HalfFaces.NONE);
        }
    }

    private static void pairAll(HalfFaces x, int[] rights) {
        for (int left = 0; left < 4; left++) {
            x.pair(left, rights[left]);
        }
    }

    private static void bestPairsOfEqual() {
        for (int number = 0; number < PAIRINGS.size(); number++) {
            int[] rights = PAIRINGS.get(number);
            HalfFaces x = new HalfFaces();
            pairAll(x, rights);
            CHECK.due("the sum of " + number + " is the greatest", x.count(6), x.count(7));
            CHECK.due("just the lowest of equal pairs, from " + number, x.pairBest(), displaced(rights));
            pairsDue("equal pairs from " + number, x, PAIRINGS.get(0));
        }
    }

    /** Only two pairs could be other ones with the same sum. */
    private static void bestPairsOfTwoEqual() {
        for (int first = 0; first < 4; first++) {
            for (int second = first + 1; second < 4; second++) {
                HalfFaces x = new HalfFaces();
                for (int painter = 0; painter < 4; painter++) {
                    int tone = painter == first || painter == second ? 0 : 2 * painter + 3;
                    Check.with(x, "L" + painter + "0:00" + tone + ",R" + painter + "0:" + tone + "00");
                }
                String at = "equal are " + first + " and " + second;
                CHECK.due(at, x.pairBest(), HalfFaces.NONE);
                x.pair(first, second);
                CHECK.due(at + ", the sum stays", x.count(6), x.count(7));
                CHECK.due(at + ", the lower ones come first", x.pairBest(), 2);
                pairsDue(at, x, PAIRINGS.get(0));
            }
        }
    }

    /** So many faces have a likeness of 500, the others have one of 495. */
    private static HalfFaces around500(int faces) {
        HalfFaces x = new HalfFaces();
        for (int left = 0; left < 4; left++) {
            StringBuilder rows = new StringBuilder();
            for (int row = 0; row < 5; row++) {
                rows.append("L").append(left).append(row).append(":990,");
            }
            rows.append("L").append(left).append("5:9").append(left < faces ? 1 : 2).append("0");
            Check.with(x, rows.toString());
            CHECK.due("the likeness of " + left, x.face(left, left, 0), left < faces ? 500 : 495);
        }
        return x;
    }

    private static void prizedFaces() {
        int[] coins = {0, 100, 150, 170, 170};
        int[] prizes = {100, 50, 20, 0};
        for (int faces = 0; faces <= 4; faces++) {
            HalfFaces x = around500(faces);
            for (int rank = 0; rank < 4; rank++) {
                CHECK.due("the prize of " + rank + " of " + faces, x.ranked(rank, 2), rank < faces ? prizes[rank] : 0);
            }
            CHECK.due("show with " + faces, x.show(), Math.min(3, faces));
            CHECK.due("all coins with " + faces, x.count(4), coins[faces]);
            for (int left = 0; left < 4; left++) {
                int half = left < faces ? prizes[left] / 2 : 0;
                CHECK.due("the coins of left " + left + " of " + faces, x.painter(false, left, 3), half);
                CHECK.due("the coins of right " + left + " of " + faces, x.painter(true, left, 3), half);
            }
        }
    }

    private static void fourthFaceGetsNone() {
        HalfFaces x = new HalfFaces();
        CHECK.due("its likeness is enough", x.ranked(3, 1), 1000);
        CHECK.due("the prize of the fourth face", x.ranked(3, 2), 0);
        CHECK.due("show", x.show(), 3);
        CHECK.due("the coins of the fourth left painter", x.painter(false, 3, 3), 0);
        CHECK.due("the coins of the fourth right painter", x.painter(true, 3, 3), 0);
        CHECK.due("show again", x.show(), 3);
        CHECK.due("coins are kept", x.painter(false, 0, 3), 100);
        CHECK.due("coins are kept", x.painter(false, 1, 3), 50);
        CHECK.due("coins are kept", x.painter(true, 2, 3), 20);
    }

    private static void prizesOfEqual() {
        for (int number = 0; number < PAIRINGS.size(); number++) {
            int[] rights = PAIRINGS.get(number);
            HalfFaces x = new HalfFaces();
            pairAll(x, rights);
            x.show();
            int[] halves = {50, 25, 10, 0};
            for (int left = 0; left < 4; left++) {
                CHECK.due("the lower left painter first", x.painter(false, left, 3), halves[left]);
                CHECK.due("and as much for the right one", x.painter(true, rights[left], 3), halves[left]);
            }
        }
    }

    private static void fullText() {
        HalfFaces x = new HalfFaces();
        for (int i = 0; i < 60; i++) {
            CHECK.due("type", x.type(FULL_TEXT.charAt(i)), i + 1);
        }
        CHECK.due("type a 61st", x.type('1'), HalfFaces.FULL);
        CHECK.due("type a 62nd", x.type(','), HalfFaces.FULL);
        CHECK.due("readRows of the full text", x.readRows(), 7);
        CHECK.due("the first row", x.sitter(0, 0), 1);
        CHECK.due("the fifth row", x.sitter(4, 5), 5);
        CHECK.due("the sixth entry", x.tone(false, 1, 0, 2), 8);
        CHECK.due("the last character", x.tone(true, 3, 5, 2), 1);
        CHECK.due("the text stays", x.count(10), 60);
        CHECK.due("clearText", x.clearText(), 60);
        CHECK.due("clearText again", x.clearText(), 0);
        CHECK.due("readRows of the empty text", x.readRows(), -1000100);
        CHECK.due("type after it", x.type('7'), 1);
        CHECK.due("readRows", x.readRows(), -1000100);
    }

    /** The start of a text without a fault ends too early, but where an entry ends. */
    private static void everyLengthOfText() {
        for (int length = 0; length <= 60; length++) {
            HalfFaces x = new HalfFaces();
            Check.type(x, FULL_TEXT.substring(0, length));
            boolean isWhole = length == 60 || FULL_TEXT.charAt(length) == ',';
            int entries = length > 44 ? 5 + (length - 45 + 1) / 8 : (length + 1) / 9;
            CHECK.due("the first " + length + " characters", x.readRows(), isWhole ? entries : -1000100 - length);
            CHECK.due("an act or none", x.count(9), isWhole ? 1 : 0);
            // What stood in the text before it was emptied is no part of it.
            Check.type(x, FULL_TEXT);
            Check.type(x, FULL_TEXT.substring(0, length));
            CHECK.due("again, after a full text", x.readRows(), isWhole ? entries : -1000100 - length);
        }
    }

    private static void firstFaultIsTold() {
        for (int place = 0; place < 60; place++) {
            HalfFaces x = new HalfFaces();
            StringBuilder text = new StringBuilder(FULL_TEXT);
            text.setCharAt(place, 'x');
            text.setCharAt(59, 'x');
            Check.type(x, text.toString());
            CHECK.due("faults at " + place + " and later", x.readRows(), -1000100 - place);
            CHECK.due("nothing is done", Look.state(x).equals(Look.state(new HalfFaces())));
        }
    }

    private static void historyFromEmptyToFull() {
        for (int acts = 0; acts <= 7; acts++) {
            HalfFaces x = new HalfFaces();
            for (int tone = 1; tone <= acts; tone++) {
                x.sit(3, 3, tone);
            }
            int recorded = Math.min(acts, 4);
            CHECK.due("states after " + acts, x.count(9), recorded);
            for (int left = recorded - 1; left >= 0; left--) {
                CHECK.due("undo after " + acts, x.undo(), left);
                CHECK.due("the states left", x.count(9), left);
                CHECK.due("sitter after " + acts, x.sitter(3, 3), acts - recorded + left);
            }
            CHECK.due("undo of none after " + acts, x.undo(), HalfFaces.NONE);
            CHECK.due("sitter after all", x.sitter(3, 3), acts - recorded);
            x.sit(3, 3, 9);
            CHECK.due("the history begins anew", x.undo(), 0);
            CHECK.due("sitter", x.sitter(3, 3), acts - recorded);
        }
    }

    private static void snapshotStays() {
        HalfFaces x = new HalfFaces();
        CHECK.due("restore of none", x.restore(), HalfFaces.NONE);
        CHECK.due("keep of a new object", x.keep(), 0);
        for (int tone = 1; tone <= 6; tone++) {
            x.sit(0, 0, tone);
        }
        CHECK.due("restore when the history is full", x.restore(), 0);
        CHECK.due("the state of the snapshot", x.sitter(0, 0), 0);
        CHECK.due("the states", x.count(9), 4);
        CHECK.due("undo of the restore", x.undo(), 3);
        CHECK.due("the state before it", x.sitter(0, 0), 6);
        while (x.undo() != HalfFaces.NONE) {
            CHECK.due("the history is what it was but for its oldest", x.sitter(0, 0) >= 3);
        }
        CHECK.due("the oldest that is left", x.sitter(0, 0), 3);
        CHECK.due("the snapshot stays", x.restore(), 0);
        CHECK.due("the state of the snapshot", x.sitter(0, 0), 0);
        x.show();
        CHECK.due("keep after a show", x.keep(), 1);
        x.undo();
        CHECK.due("the shows after undo", x.count(3), 0);
        CHECK.due("restore has the show", x.restore(), 1);
        CHECK.due("the shows then", x.count(3), 1);
    }

    private static void lastCalls() {
        HalfFaces x = new HalfFaces();
        for (int call = 1; call < 512; call++) {
            CHECK.due("show " + call, x.show(), 3);
        }
        CHECK.due("all coins at the 512th call", x.count(4), 511 * 170);
        x = new HalfFaces();
        for (int call = 1; call < 512; call++) {
            CHECK.due("hour " + call, x.hour(), 480);
        }
        CHECK.due("hours at the 512th call", x.count(2), 511);
        x = new HalfFaces();
        for (int call = 1; call < 512; call++) {
            CHECK.due("sit " + call, x.sit(0, 0, call % 2 + 1), call == 1 ? 0 : (call - 1) % 2 + 1);
        }
        CHECK.due("undo as the 512th call", x.undo(), 3);
    }
}
