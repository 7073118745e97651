import java.util.List;
import java.util.function.Supplier;
import java.util.function.ToIntFunction;

/** "Each call of a method that is described as an act .. records the state that was before it", and no other does. */
public final class ActsTest {
    private static final Check CHECK = new Check();

    public static void main(String[] args) {
        everyAct();
        actsThatChangeNothing();
        tellingIsNoAct();
        typingIsNoAct();
        keepIsNoAct();
        undoIsNoAct();
        CHECK.end();
    }

    private static Supplier<HalfFaces> after(Supplier<HalfFaces> scene, ToIntFunction<HalfFaces> calling) {
        return () -> {
            HalfFaces x = scene.get();
            calling.applyAsInt(x);
            return x;
        };
    }

    /** The states then are the new one, that which was, and the latest three of those before. */
    private static void act(String call, Supplier<HalfFaces> scene, ToIntFunction<HalfFaces> calling) {
        CHECK.due(call + " is no error and not NONE", calling.applyAsInt(scene.get()) > HalfFaces.UNKNOWN);
        List<String> before = Look.states(scene);
        Supplier<HalfFaces> called = after(scene, calling);
        List<String> then = Look.states(called);
        CHECK.due(call + " records the state before it, and drops the oldest one of four",
                then.subList(1, then.size()).equals(before.subList(0, Math.min(4, before.size()))));
        CHECK.due(call + " leaves the snapshot", Look.snapshot(called).equals(Look.snapshot(scene)));
        CHECK.due(call + " leaves the text", called.get().clearText(), scene.get().clearText());
    }

    private static void act(String call, ToIntFunction<HalfFaces> calling) {
        for (Supplier<HalfFaces> scene : Scenes.ALL) {
            act(call, scene, calling);
        }
    }

    private static void everyAct() {
        act("sit", x -> x.sit(3, 4, 3));
        act("set the tolerance", x -> x.set(0, 9));
        act("set the minutes", x -> x.set(1, 200));
        act("paint", x -> x.paint(false, 2, 1, 1, 3));
        act("correct", Scenes::begun, x -> x.correct(true, 0, 3));
        act("correct", Scenes::busy, x -> x.correct(true, 3, 3));
        act("copy", Scenes::begun, x -> x.copy(true, 0, 3));
        act("copy", Scenes::busy, x -> x.copy(false, 3, 0));
        act("hour", HalfFaces::hour);
        act("readRows", Scenes::busy, HalfFaces::readRows);
        act("pair", x -> x.pair(3, 1));
        act("pairBest", Scenes::busy, HalfFaces::pairBest);
        act("show", HalfFaces::show);
        act("restore", Scenes::busy, HalfFaces::restore);
    }

    private static void actsThatChangeNothing() {
        Supplier<HalfFaces> read = after(Scenes::busy, HalfFaces::readRows);
        act("readRows once more", read, HalfFaces::readRows);
        String again = Look.state(after(read, HalfFaces::readRows).get());
        CHECK.due("readRows once more changes nothing", again.equals(Look.state(read.get())));
        Supplier<HalfFaces> kept = after(Scenes::begun, HalfFaces::keep);
        act("restore at once", kept, HalfFaces::restore);
        String restored = Look.state(after(kept, HalfFaces::restore).get());
        CHECK.due("restore at once changes nothing", restored.equals(Look.state(kept.get())));
    }

    private static void noAct(String call, ToIntFunction<HalfFaces> calling) {
        for (Supplier<HalfFaces> scene : Scenes.ALL) {
            CHECK.due(call + " changes nothing", Look.through(after(scene, calling)).equals(Look.through(scene)));
        }
    }

    private static void tellingIsNoAct() {
        for (int number = 0; number <= 10; number++) {
            int n = number;
            noAct("sitter", x -> x.sitter(n % 6, n / 2));
            noAct("tone", x -> x.tone(n > 4, n % 4, n % 6, n % 3));
            noAct("painter", x -> x.painter(n > 4, n % 4, n % 8));
            noAct("face", x -> x.face(n / 4, n % 4, n % 4));
            noAct("bestFor", x -> x.bestFor(n % 4));
            noAct("ranked", x -> x.ranked(n % 4, n % 3));
            noAct("count", x -> x.count(n));
        }
    }

    private static void typingIsNoAct() {
        for (Supplier<HalfFaces> scene : Scenes.ALL) {
            CHECK.due("type is no act", Look.states(after(scene, x -> x.type('0'))).equals(Look.states(scene)));
            Supplier<HalfFaces> cleared = after(scene, HalfFaces::clearText);
            CHECK.due("clearText is no act", Look.states(cleared).equals(Look.states(scene)));
            CHECK.due("clearText leaves the snapshot", Look.snapshot(cleared).equals(Look.snapshot(scene)));
            CHECK.due("clearText empties", cleared.get().count(10), 0);
        }
    }

    private static void keepIsNoAct() {
        for (Supplier<HalfFaces> scene : Scenes.ALL) {
            Supplier<HalfFaces> kept = after(scene, HalfFaces::keep);
            CHECK.due("keep answers the shows", scene.get().keep(), scene.get().count(3));
            CHECK.due("keep is no act", Look.states(kept).equals(Look.states(scene)));
            CHECK.due("keep leaves the text", Look.text(kept).equals(Look.text(scene)));
            CHECK.due("keep takes the state, in place of the one that was",
                    Look.snapshot(kept).equals(Look.state(scene.get())));
        }
    }

    private static void undoIsNoAct() {
        for (Supplier<HalfFaces> scene : Scenes.ALL) {
            List<String> before = Look.states(scene);
            Supplier<HalfFaces> undone = after(scene, HalfFaces::undo);
            CHECK.due("undo answers the states left", scene.get().undo(),
                    before.size() == 1 ? HalfFaces.NONE : before.size() - 2);
            CHECK.due("undo removes the latest state and restores it",
                    Look.states(undone).equals(before.size() == 1 ? before : before.subList(1, before.size())));
            CHECK.due("undo leaves the snapshot", Look.snapshot(undone).equals(Look.snapshot(scene)));
            CHECK.due("undo leaves the text", undone.get().clearText(), scene.get().clearText());
        }
    }
}
