/** Promises 14, 15 and 16: undo, keep, restore. */
public final class HistoryTest {
    private static final Check CHECK = new Check();

    public static void main(String[] args) {
        undo();
        mostStates();
        whatUndoRestores();
        keepAndRestore();
        snapshotIsNoPartOfTheState();
        noActs();
        CHECK.end();
    }

    private static void undo() {
        HalfFaces x = new HalfFaces();
        CHECK.due("undo of none", x.undo(), HalfFaces.NONE);
        x.sit(0, 0, 1);
        x.sit(0, 0, 2);
        CHECK.due("undo", x.undo(), 1);
        CHECK.due("sitter", x.sitter(0, 0), 1);
        x.sit(0, 0, 3);
        CHECK.due("undo", x.undo(), 1);
        CHECK.due("sitter", x.sitter(0, 0), 1);
        CHECK.due("undo", x.undo(), 0);
        CHECK.due("sitter", x.sitter(0, 0), 0);
        CHECK.due("undo of none", x.undo(), HalfFaces.NONE);
    }

    private static void mostStates() {
        HalfFaces x = new HalfFaces();
        for (int tone = 1; tone <= 9; tone++) {
            x.sit(0, 0, tone);
            CHECK.due("states", x.count(9), Math.min(tone, 4));
        }
        for (int left = 3; left >= 0; left--) {
            CHECK.due("undo", x.undo(), left);
            CHECK.due("sitter", x.sitter(0, 0), 5 + left);
        }
        CHECK.due("the older ones are dropped", x.undo(), HalfFaces.NONE);
        CHECK.due("sitter", x.sitter(0, 0), 5);
    }

    private static void whatUndoRestores() {
        HalfFaces x = Check.with(new HalfFaces(), "0:123456,L35:123,R35:456");
        x.show();
        x.set(1, 77);
        x.set(0, 7);
        x.pair(0, 3);
        x.hour();
        x.hour();
        x.undo();
        x.undo();
        x.undo();
        CHECK.due("pairs", x.painter(false, 0, 2), 0);
        CHECK.due("hours", x.count(2), 0);
        CHECK.due("minutes", x.painter(true, 0, 0), 60);
        x.undo();
        CHECK.due("tolerance", x.count(0), 1);
        CHECK.due("the minutes of an hour", x.count(1), 77);
        CHECK.due("coins", x.count(4), 170);
        CHECK.due("shows", x.count(3), 1);
        CHECK.due("the last tone of a right half", x.tone(true, 3, 5, 2), 6);
        CHECK.due("a tone of the sitter", x.sitter(0, 5), 6);
    }

    private static void keepAndRestore() {
        HalfFaces x = new HalfFaces();
        CHECK.due("restore without a snapshot", x.restore(), HalfFaces.NONE);
        CHECK.due("no act", x.count(9), 0);
        x.show();
        CHECK.due("keep", x.keep(), 1);
        CHECK.due("keep is no act", x.count(9), 1);
        x.sit(1, 1, 5);
        x.show();
        CHECK.due("restore", x.restore(), 1);
        CHECK.due("sitter", x.sitter(1, 1), 0);
        CHECK.due("coins", x.count(4), 170);
        CHECK.due("restore is an act", x.count(9), 4);
        CHECK.due("restore again, an act though nothing changes", x.restore(), 1);
        CHECK.due("undo", x.undo(), 3);
        CHECK.due("undo", x.undo(), 2);
        CHECK.due("the state before the restore", x.sitter(1, 1), 5);
        CHECK.due("its shows", x.count(3), 2);
        CHECK.due("keep in place of the other", x.keep(), 2);
        x.sit(1, 1, 6);
        CHECK.due("restore", x.restore(), 2);
        CHECK.due("sitter", x.sitter(1, 1), 5);
    }

    private static void snapshotIsNoPartOfTheState() {
        HalfFaces x = new HalfFaces();
        x.sit(2, 2, 2);
        x.keep();
        CHECK.due("undo", x.undo(), 0);
        CHECK.due("sitter", x.sitter(2, 2), 0);
        CHECK.due("the snapshot is there", x.restore(), 0);
        CHECK.due("sitter", x.sitter(2, 2), 2);
        x.sit(2, 2, 3);
        x.paint(true, 0, 0, 0, 3);
        CHECK.due("the snapshot stays", x.restore(), 0);
        CHECK.due("sitter", x.sitter(2, 2), 2);
        CHECK.due("tone", x.tone(true, 0, 0, 0), 0);
        Check.type(x, "L00");
        x.restore();
        CHECK.due("the text stays", x.count(10), 3);
    }

    private static void noActs() {
        HalfFaces x = new HalfFaces();
        x.type('0');
        x.clearText();
        x.keep();
        x.undo();
        x.sitter(0, 0);
        x.tone(true, 0, 0, 0);
        x.painter(true, 0, 4);
        x.face(0, 0, 0);
        x.bestFor(0);
        x.ranked(0, 0);
        x.count(7);
        CHECK.due("no act", x.count(9), 0);
    }
}
