import java.util.ArrayList;
import java.util.List;
import java.util.function.Supplier;

/** What objects tell, as one line, so that a test can say that nothing at all has changed. */
final class Look {
    private Look() {
    }

    /** The whole state; everything else that is told follows from it. */
    static String state(HalfFaces x) {
        StringBuilder told = new StringBuilder();
        for (int cell = 0; cell < 36; cell++) {
            add(told, x.sitter(cell / 6, cell % 6));
        }
        for (int cell = 0; cell < 144; cell++) {
            add(told, x.tone(cell >= 72, cell / 18 % 4, cell / 3 % 6, cell % 3));
        }
        for (int painter = 0; painter < 4; painter++) {
            add(told, x.painter(false, painter, 0));
            add(told, x.painter(true, painter, 0));
            add(told, x.painter(false, painter, 2));
            add(told, x.painter(false, painter, 3));
            add(told, x.painter(true, painter, 3));
        }
        for (int what = 0; what < 9; what++) {
            add(told, x.count(what));
        }
        return told.toString();
    }

    // A new object for each look, as an object is used for 512 calls.

    /** The state, and those of the history, the latest first. */
    static List<String> states(Supplier<HalfFaces> made) {
        List<String> states = new ArrayList<>();
        int recorded = made.get().count(9);
        for (int undone = 0; undone <= recorded; undone++) {
            states.add(state(afterUndo(made.get(), undone)));
        }
        return states;
    }

    static String snapshot(Supplier<HalfFaces> made) {
        HalfFaces x = made.get();
        return x.restore() == HalfFaces.NONE ? "none" : state(x);
    }

    /** How the text is read, and what its rows make of the state. */
    static String text(Supplier<HalfFaces> made) {
        HalfFaces x = made.get();
        int length = x.count(10);
        return x.readRows() + " " + length + " " + state(x);
    }

    /** All of it. */
    static String through(Supplier<HalfFaces> made) {
        return states(made) + snapshot(made) + text(made);
    }

    private static HalfFaces afterUndo(HalfFaces x, int times) {
        for (int time = 0; time < times; time++) {
            x.undo();
        }
        return x;
    }

    private static void add(StringBuilder told, int answer) {
        told.append(answer).append(' ');
    }
}
