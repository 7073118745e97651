/** Promises 4, 5, 6, 7, 18 and 19: paint, correct, copy, hour, tone, painter. */
public final class PaintingTest {
    private static final Check CHECK = new Check();
    private static final int[] NO_PAINTERS = {-1, 4, Integer.MIN_VALUE, Integer.MAX_VALUE};

    public static void main(String[] args) {
        paint();
        paintWithoutMinutes();
        paintOutside();
        everyCellIsItsOwn();
        correctOrder();
        correctRightHalf();
        correctLimits();
        correctOutside();
        copy();
        copyRefused();
        hour();
        painterTells();
        painterTellsOfEdges();
        painterOutside();
        CHECK.end();
    }

    private static void paint() {
        HalfFaces x = new HalfFaces();
        CHECK.due("paint 9", x.paint(true, 1, 2, 0, 9), 51);
        CHECK.due("paint 5", x.paint(true, 1, 2, 0, 5), 47);
        CHECK.due("paint 5 again", x.paint(true, 1, 2, 0, 5), HalfFaces.NONE);
        CHECK.due("tone", x.tone(true, 1, 2, 0), 5);
        CHECK.due("the left half stays", x.tone(false, 1, 2, 0), 0);
        CHECK.due("the left minutes stay", x.painter(false, 1, 0), 60);
        CHECK.due("the sitter stays", x.sitter(2, 3), 0);
        CHECK.due("acts", x.count(9), 2);
        CHECK.due("undo", x.undo(), 1);
        CHECK.due("tone after undo", x.tone(true, 1, 2, 0), 9);
        CHECK.due("minutes after undo", x.painter(true, 1, 0), 51);
    }

    private static void paintWithoutMinutes() {
        HalfFaces x = new HalfFaces();
        x.set(1, 5);
        x.hour();
        CHECK.due("paint 6 of 5 minutes", x.paint(false, 0, 0, 0, 6), HalfFaces.NOT_POSSIBLE);
        CHECK.due("nothing painted", x.tone(false, 0, 0, 0), 0);
        CHECK.due("no minutes used", x.painter(false, 0, 0), 5);
        CHECK.due("no act more", x.count(9), 2);
        CHECK.due("paint 5 of 5 minutes", x.paint(false, 0, 0, 0, 5), 0);
        CHECK.due("paint 4 of 0 minutes", x.paint(false, 0, 0, 0, 4), HalfFaces.NOT_POSSIBLE);
        CHECK.due("paint the same of 0 minutes", x.paint(false, 0, 0, 0, 5), HalfFaces.NONE);
    }

    private static void paintOutside() {
        HalfFaces x = new HalfFaces();
        for (int outside : NO_PAINTERS) {
            CHECK.due("paint, painter", x.paint(false, outside, 0, 0, 10), HalfFaces.UNKNOWN);
            CHECK.due("tone, painter", x.tone(true, outside, 0, 0), HalfFaces.UNKNOWN);
        }
        for (int outside : new int[] {-1, 6, Integer.MAX_VALUE}) {
            CHECK.due("paint, row", x.paint(true, 0, outside, 0, 1), HalfFaces.UNKNOWN);
            CHECK.due("tone, row", x.tone(true, 0, outside, 0), HalfFaces.UNKNOWN);
        }
        for (int outside : new int[] {-1, 3, Integer.MIN_VALUE}) {
            CHECK.due("paint, column", x.paint(true, 0, 0, outside, -1), HalfFaces.UNKNOWN);
            CHECK.due("tone, column", x.tone(false, 0, 0, outside), HalfFaces.UNKNOWN);
        }
        CHECK.due("paint -1", x.paint(true, 0, 0, 0, -1), HalfFaces.BAD_VALUE);
        CHECK.due("paint 10", x.paint(true, 0, 0, 0, 10), HalfFaces.BAD_VALUE);
        x.set(1, 1);
        x.hour();
        CHECK.due("paint 10 without the minutes", x.paint(true, 0, 0, 0, 10), HalfFaces.BAD_VALUE);
        CHECK.due("acts", x.count(9), 2);
    }

    private static void everyCellIsItsOwn() {
        HalfFaces x = new HalfFaces();
        x.set(1, 200);
        x.hour();
        for (int i = 0; i < 144; i++) {
            x.paint(i >= 72, i / 18 % 4, i / 3 % 6, i % 3, (i * 3 + i / 18) % 10);
        }
        for (int i = 0; i < 144; i++) {
            CHECK.due("tone " + i, x.tone(i >= 72, i / 18 % 4, i / 3 % 6, i % 3), (i * 3 + i / 18) % 10);
        }
    }

    private static void correctOrder() {
        HalfFaces x = Check.with(new HalfFaces(), "1:030000,2:300000,4:004000,L21:003");
        // The errors of the left half 2: row 1 is 0 3 3, row 2 is 3 0 0, row 4 is 0 0 4.
        CHECK.due("error", x.painter(false, 2, 1), 13);
        CHECK.due("greatest error", x.painter(false, 2, 4), 4);
        CHECK.due("its row", x.painter(false, 2, 5), 4);
        CHECK.due("its column", x.painter(false, 2, 6), 2);
        CHECK.due("correct 1", x.correct(false, 2, 1), 1);
        CHECK.due("the greatest error first", x.tone(false, 2, 4, 2), 1);
        CHECK.due("greatest error then", x.painter(false, 2, 4), 3);
        CHECK.due("the lowest row then", x.painter(false, 2, 5), 1);
        CHECK.due("the lowest column then", x.painter(false, 2, 6), 1);
        CHECK.due("correct 2", x.correct(false, 2, 2), 2);
        CHECK.due("upwards", x.tone(false, 2, 1, 1), 1);
        CHECK.due("downwards", x.tone(false, 2, 1, 2), 2);
        CHECK.due("not yet", x.tone(false, 2, 2, 0), 0);
        CHECK.due("minutes", x.painter(false, 2, 0), 57);
        CHECK.due("correct all", x.correct(false, 2, 200), 10);
        CHECK.due("minutes", x.painter(false, 2, 0), 47);
        CHECK.due("no error left", x.painter(false, 2, 1), 0);
        CHECK.due("none is used", x.correct(false, 2, 200), HalfFaces.NONE);
        CHECK.due("the acts", x.count(9), 4);
        x.undo();
        CHECK.due("the error after undo", x.painter(false, 2, 1), 10);
        CHECK.due("the minutes after undo", x.painter(false, 2, 0), 57);
        CHECK.due("the other half stays", x.tone(false, 1, 1, 1), 0);
    }

    private static void correctRightHalf() {
        HalfFaces x = Check.with(new HalfFaces(), "0:900009,5:000080");
        CHECK.due("error of the right half", x.painter(true, 3, 1), 17);
        CHECK.due("correct", x.correct(true, 3, 3), 3);
        CHECK.due("the first step and the third", x.tone(true, 3, 0, 2), 2);
        CHECK.due("the second step", x.tone(true, 3, 5, 1), 1);
        CHECK.due("not the left columns", x.tone(true, 3, 0, 0), 0);
    }

    private static void correctLimits() {
        HalfFaces x = Check.with(new HalfFaces(), "0:999000,1:999000,2:999000");
        CHECK.due("no more than the minutes", x.correct(false, 0, 200), 60);
        CHECK.due("no minutes left", x.painter(false, 0, 0), 0);
        CHECK.due("error", x.painter(false, 0, 1), 21);
        int acts = x.count(9);
        CHECK.due("without minutes", x.correct(false, 0, 1), HalfFaces.NONE);
        CHECK.due("no act", x.count(9), acts);
    }

    private static void correctOutside() {
        HalfFaces x = Check.with(new HalfFaces(), "0:999999");
        for (int outside : NO_PAINTERS) {
            CHECK.due("correct, painter", x.correct(true, outside, 0), HalfFaces.UNKNOWN);
        }
        for (int outside : new int[] {0, -1, 201, Integer.MIN_VALUE, Integer.MAX_VALUE}) {
            CHECK.due("correct, minutes", x.correct(true, 0, outside), HalfFaces.BAD_VALUE);
        }
        CHECK.due("correct, bad minutes with nothing to do", new HalfFaces().correct(true, 0, 0), HalfFaces.BAD_VALUE);
        CHECK.due("no act", x.count(9), 1);
    }

    private static void copy() {
        HalfFaces x = Check.with(new HalfFaces(), "R10:123,R15:900,R30:153");
        // The halves 3 and 1 are apart by 3 in the row 0 and by 9 in the row 5.
        CHECK.due("copy", x.copy(true, 3, 1), 2);
        CHECK.due("minutes of the painter", x.painter(true, 3, 0), 48);
        CHECK.due("minutes of the other", x.painter(true, 1, 0), 60);
        CHECK.due("tone", x.tone(true, 3, 0, 1), 2);
        CHECK.due("tone", x.tone(true, 3, 5, 0), 9);
        CHECK.due("the other stays", x.tone(true, 1, 0, 1), 2);
        CHECK.due("copy again", x.copy(true, 3, 1), HalfFaces.NONE);
        CHECK.due("copy of oneself", x.copy(true, 3, 3), HalfFaces.NONE);
        CHECK.due("the left side is alike", x.copy(false, 3, 1), HalfFaces.NONE);
        CHECK.due("acts", x.count(9), 2);
        CHECK.due("undo", x.undo(), 1);
        CHECK.due("tone after undo", x.tone(true, 3, 0, 1), 5);
        CHECK.due("minutes after undo", x.painter(true, 3, 0), 60);
    }

    private static void copyRefused() {
        HalfFaces x = Check.with(new HalfFaces(), "L00:999,L01:999,L02:700");
        CHECK.due("61 minutes of 60", x.copy(false, 1, 0), HalfFaces.NOT_POSSIBLE);
        CHECK.due("nothing taken over", x.tone(false, 1, 0, 0), 0);
        CHECK.due("nothing used", x.painter(false, 1, 0), 60);
        CHECK.due("no act", x.count(9), 1);
        Check.with(x, "L02:600");
        CHECK.due("60 minutes of 60", x.copy(false, 1, 0), 7);
        CHECK.due("none left", x.painter(false, 1, 0), 0);
        CHECK.due("alike without minutes", x.copy(false, 1, 0), HalfFaces.NONE);
        for (int outside : NO_PAINTERS) {
            CHECK.due("copy, painter", x.copy(true, outside, 0), HalfFaces.UNKNOWN);
            CHECK.due("copy, other", x.copy(true, 0, outside), HalfFaces.UNKNOWN);
        }
    }

    private static void hour() {
        HalfFaces x = new HalfFaces();
        x.paint(false, 0, 0, 0, 9);
        x.paint(true, 3, 0, 0, 4);
        x.set(1, 7);
        CHECK.due("hour", x.hour(), 480 - 13);
        CHECK.due("the next hour", x.hour(), 56);
        CHECK.due("minutes", x.painter(true, 3, 0), 7);
        CHECK.due("minutes", x.painter(false, 0, 0), 7);
        CHECK.due("hours", x.count(2), 2);
        CHECK.due("the tones stay", x.tone(false, 0, 0, 0), 9);
        CHECK.due("undo", x.undo(), 3);
        CHECK.due("hours after undo", x.count(2), 1);
        CHECK.due("undo", x.undo(), 2);
        CHECK.due("minutes after undo", x.painter(false, 0, 0), 51);
    }

    private static void painterTells() {
        HalfFaces x = Check.with(new HalfFaces(), "0:120345,3:000700,L10:103", "R23:900,R24:001");
        x.pair(1, 2);
        int[] left = {60, 2 + 3, 2, 0, 3, 0, 2, 16};
        int[] right = {60, 3 + 4 + 5 + 2 + 1, 1, 0, 5, 0, 2, 13};
        for (int what = 0; what < 8; what++) {
            CHECK.due("painter(false, 1, " + what + ")", x.painter(false, 1, what), left[what]);
            CHECK.due("painter(true, 2, " + what + ")", x.painter(true, 2, what), right[what]);
        }
        CHECK.due("the other pair", x.painter(true, 1, 2), 2);
        CHECK.due("the other pair", x.painter(false, 2, 2), 1);
        x.show();
        CHECK.due("coins", x.painter(false, 0, 3), coinsOf(x, 0));
        Check.with(x, "0:120345,3:000700,R14:110,R10:345,R13:700");
        CHECK.due("the row of the first of two", x.painter(true, 1, 5), 4);
        CHECK.due("the column of the first of two", x.painter(true, 1, 6), 0);
        Check.with(x, "R14:000,R15:002");
        CHECK.due("the last cell's row", x.painter(true, 1, 5), 5);
        CHECK.due("the last cell's column", x.painter(true, 1, 6), 2);
    }

    private static void painterTellsOfEdges() {
        HalfFaces x = new HalfFaces();
        CHECK.due("the row without an error", x.painter(true, 3, 5), 0);
        CHECK.due("the column without an error", x.painter(true, 3, 6), 0);
        Check.with(x, "0:500700,5:001009");
        CHECK.due("the column of the first cell", x.painter(false, 0, 6), 0);
        CHECK.due("its row", x.painter(false, 0, 5), 0);
        CHECK.due("its error", x.painter(false, 0, 4), 5);
        CHECK.due("the error of the left half 3", x.painter(false, 3, 1), 6);
        CHECK.due("the error of the right half 0", x.painter(true, 0, 1), 16);
        CHECK.due("its greatest", x.painter(true, 0, 4), 9);
        CHECK.due("its row", x.painter(true, 0, 5), 5);
        CHECK.due("its column", x.painter(true, 0, 6), 2);
        CHECK.due("its cells without an error", x.painter(true, 0, 7), 16);
    }

    private static int coinsOf(HalfFaces x, int left) {
        for (int rank = 0; rank < 4; rank++) {
            if (x.ranked(rank, 0) == left) {
                return x.ranked(rank, 2) / 2;
            }
        }
        return -1;
    }

    private static void painterOutside() {
        HalfFaces x = new HalfFaces();
        for (int outside : NO_PAINTERS) {
            CHECK.due("painter outside", x.painter(false, outside, 0), HalfFaces.UNKNOWN);
            CHECK.due("painter outside, bad what", x.painter(true, outside, 8), HalfFaces.UNKNOWN);
        }
        for (int what : new int[] {-1, 8, Integer.MIN_VALUE, Integer.MAX_VALUE}) {
            CHECK.due("painter, bad what", x.painter(true, 0, what), HalfFaces.BAD_VALUE);
        }
    }
}
