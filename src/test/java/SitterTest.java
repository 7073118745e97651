/** Promises 1, 2, 3 and 17: a new object, sit, set, sitter. */
public final class SitterTest {
    private static final Check CHECK = new Check();
    private static final int[] OUTSIDE_ROWS = {-1, 6, Integer.MIN_VALUE, Integer.MAX_VALUE};

    public static void main(String[] args) {
        newObject();
        sit();
        sitOutside();
        tolerance();
        minutesOfAnHour();
        setOutside();
        CHECK.end();
    }

    private static void newObject() {
        HalfFaces x = new HalfFaces();
        for (int row = 0; row < 6; row++) {
            for (int column = 0; column < 6; column++) {
                CHECK.due("a new sitter", x.sitter(row, column), 0);
                CHECK.due("a new half", x.tone(column > 2, 3, row, column % 3), 0);
            }
        }
        for (int painter = 0; painter < 4; painter++) {
            for (int side = 0; side < 2; side++) {
                CHECK.due("new minutes", x.painter(side == 1, painter, 0), 60);
                CHECK.due("a new error", x.painter(side == 1, painter, 1), 0);
                CHECK.due("a new pair", x.painter(side == 1, painter, 2), painter);
                CHECK.due("new coins", x.painter(side == 1, painter, 3), 0);
            }
        }
        int[] counts = {1, 60, 0, 0, 0, 0, 4000, 4000, 0, 0, 0};
        for (int what = 0; what < counts.length; what++) {
            CHECK.due("a new count(" + what + ")", x.count(what), counts[what]);
        }
        CHECK.due("a new undo()", x.undo(), HalfFaces.NONE);
        CHECK.due("a new restore()", x.restore(), HalfFaces.NONE);
        CHECK.due("a new readRows()", x.readRows(), -1000100);
    }

    private static void sit() {
        HalfFaces x = new HalfFaces();
        for (int cell = 0; cell < 36; cell++) {
            int tone = (cell * 7 + 3) % 10;
            CHECK.due("sit", x.sit(cell / 6, cell % 6, tone), tone == 0 ? HalfFaces.NONE : 0);
        }
        for (int cell = 0; cell < 36; cell++) {
            CHECK.due("sitter", x.sitter(cell / 6, cell % 6), (cell * 7 + 3) % 10);
        }
        x = new HalfFaces();
        CHECK.due("sit 9", x.sit(5, 0, 9), 0);
        CHECK.due("sit 4", x.sit(5, 0, 4), 9);
        CHECK.due("sit 4 again", x.sit(5, 0, 4), HalfFaces.NONE);
        CHECK.due("the acts so far", x.count(9), 2);
        CHECK.due("sit 0", x.sit(5, 0, 0), 4);
        CHECK.due("undo", x.undo(), 2);
        CHECK.due("sitter after undo", x.sitter(5, 0), 4);
        CHECK.due("the half stays", x.tone(false, 0, 5, 0), 0);
    }

    private static void sitOutside() {
        HalfFaces x = new HalfFaces();
        for (int outside : OUTSIDE_ROWS) {
            CHECK.due("sit outside", x.sit(outside, 0, 1), HalfFaces.UNKNOWN);
            CHECK.due("sit outside", x.sit(0, outside, 1), HalfFaces.UNKNOWN);
            CHECK.due("sit outside, bad tone", x.sit(0, outside, 10), HalfFaces.UNKNOWN);
            CHECK.due("sitter outside", x.sitter(outside, 0), HalfFaces.UNKNOWN);
            CHECK.due("sitter outside", x.sitter(0, outside), HalfFaces.UNKNOWN);
        }
        CHECK.due("sit -1", x.sit(0, 0, -1), HalfFaces.BAD_VALUE);
        CHECK.due("sit 10", x.sit(0, 0, 10), HalfFaces.BAD_VALUE);
        CHECK.due("sit, huge tone", x.sit(0, 0, Integer.MAX_VALUE), HalfFaces.BAD_VALUE);
        CHECK.due("no act", x.count(9), 0);
        CHECK.due("nothing changed", x.sitter(0, 0), 0);
    }

    private static void tolerance() {
        HalfFaces x = new HalfFaces();
        CHECK.due("set(0, 1)", x.set(0, 1), HalfFaces.NONE);
        CHECK.due("set(0, 0)", x.set(0, 0), 1);
        CHECK.due("set(0, 9)", x.set(0, 9), 0);
        CHECK.due("set(0, 9) again", x.set(0, 9), HalfFaces.NONE);
        CHECK.due("count(0)", x.count(0), 9);
        CHECK.due("acts", x.count(9), 2);
        CHECK.due("count(1) stays", x.count(1), 60);
        x.undo();
        CHECK.due("count(0) after undo", x.count(0), 0);
    }

    private static void minutesOfAnHour() {
        HalfFaces x = new HalfFaces();
        CHECK.due("set(1, 60)", x.set(1, 60), HalfFaces.NONE);
        CHECK.due("set(1, 1)", x.set(1, 1), 60);
        CHECK.due("set(1, 200)", x.set(1, 200), 1);
        CHECK.due("count(1)", x.count(1), 200);
        CHECK.due("count(0) stays", x.count(0), 1);
        CHECK.due("the minutes stay until the hour passes", x.painter(true, 2, 0), 60);
        x.undo();
        CHECK.due("count(1) after undo", x.count(1), 1);
    }

    private static void setOutside() {
        HalfFaces x = new HalfFaces();
        int[][] calls = {{-1, 1}, {2, 1}, {Integer.MAX_VALUE, 1}, {0, -1}, {0, 10}, {1, 0}, {1, 201}, {1, -5},
            {0, Integer.MIN_VALUE}, {1, Integer.MAX_VALUE}};
        for (int[] call : calls) {
            CHECK.due("set(" + call[0] + ", " + call[1] + ")", x.set(call[0], call[1]), HalfFaces.BAD_VALUE);
        }
        CHECK.due("no act", x.count(9), 0);
        CHECK.due("count(0)", x.count(0), 1);
        CHECK.due("count(1)", x.count(1), 60);
    }
}
