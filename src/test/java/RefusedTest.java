import java.util.function.Supplier;
import java.util.function.ToIntFunction;

/** Every promise: a call that returns an error or NONE changes nothing, and the errors come in their order. */
public final class RefusedTest {
    private static final Check CHECK = new Check();
    private static final int UNKNOWN = HalfFaces.UNKNOWN;
    private static final int BAD_VALUE = HalfFaces.BAD_VALUE;
    private static final int NOT_POSSIBLE = HalfFaces.NOT_POSSIBLE;
    private static final int NONE = HalfFaces.NONE;

    public static void main(String[] args) {
        sit();
        set();
        paint();
        paintNotPossible();
        correct();
        copy();
        copyNotPossible();
        readRows();
        pair();
        pairBest();
        type();
        undo();
        restore();
        sitterAndTone();
        painter();
        face();
        bestFor();
        ranked();
        count();
        CHECK.end();
    }

    /** The numbers around and far outside 0 to greatest, those too that wrap round to one inside. */
    private static int[] outside(int greatest) {
        return new int[] {-1, greatest + 1, -2, greatest + 2, Integer.MIN_VALUE, Integer.MIN_VALUE + 1,
            Integer.MAX_VALUE, 256, 65536, 1 << 30, -256, 715827883};
    }

    private static void refused(String call, int due, ToIntFunction<HalfFaces> calling) {
        for (Supplier<HalfFaces> scene : Scenes.ALL) {
            refused(call, due, scene, calling);
        }
    }

    private static void refused(String call, int due, Supplier<HalfFaces> scene, ToIntFunction<HalfFaces> calling) {
        CHECK.due(call, calling.applyAsInt(scene.get()), due);
        Supplier<HalfFaces> called = () -> {
            HalfFaces x = scene.get();
            calling.applyAsInt(x);
            return x;
        };
        CHECK.due(call + " changes nothing", Look.through(called).equals(Look.through(scene)));
    }

    private static void sit() {
        for (int out : outside(5)) {
            refused("sit, row " + out, UNKNOWN, x -> x.sit(out, 0, 1));
            refused("sit, column " + out, UNKNOWN, x -> x.sit(0, out, 1));
            refused("sit, last row, column " + out, UNKNOWN, x -> x.sit(5, out, 1));
            refused("sit, row and tone " + out, UNKNOWN, x -> x.sit(out, 5, 10));
            refused("sit, column and tone " + out, UNKNOWN, x -> x.sit(5, out, -1));
        }
        for (int out : outside(9)) {
            refused("sit, tone " + out, BAD_VALUE, x -> x.sit(5, 5, out));
            refused("sit, tone " + out, BAD_VALUE, x -> x.sit(0, 0, out));
        }
        refused("sit, so already", NONE, HalfFaces::new, x -> x.sit(0, 0, 0));
        refused("sit, so already", NONE, HalfFaces::new, x -> x.sit(5, 5, 0));
        refused("sit, so already", NONE, Scenes::busy, x -> x.sit(2, 2, 9));
    }

    private static void set() {
        for (int out : outside(1)) {
            refused("set, what " + out, BAD_VALUE, x -> x.set(out, 1));
            refused("set, what " + out, BAD_VALUE, x -> x.set(out, 0));
        }
        for (int out : outside(9)) {
            refused("set, tolerance " + out, BAD_VALUE, x -> x.set(0, out));
        }
        for (int out : outside(200)) {
            refused("set, minutes " + out, BAD_VALUE, x -> x.set(1, out));
        }
        refused("set, minutes 0", BAD_VALUE, x -> x.set(1, 0));
        refused("set, a tolerance of minutes", BAD_VALUE, x -> x.set(0, 60));
        refused("set, so already", NONE, HalfFaces::new, x -> x.set(0, 1));
        refused("set, so already", NONE, HalfFaces::new, x -> x.set(1, 60));
        refused("set, so already", NONE, Scenes::busy, x -> x.set(0, 2));
        refused("set, so already", NONE, Scenes::busy, x -> x.set(1, 45));
    }

    private static void paint() {
        for (int out : outside(3)) {
            refused("paint, left painter " + out, UNKNOWN, x -> x.paint(false, out, 0, 0, 1));
            refused("paint, right painter " + out, UNKNOWN, x -> x.paint(true, out, 5, 2, 1));
            refused("paint, painter and tone " + out, UNKNOWN, x -> x.paint(true, out, 0, 0, 10));
        }
        for (int out : outside(5)) {
            refused("paint, row " + out, UNKNOWN, x -> x.paint(true, 0, out, 0, 1));
            refused("paint, row and tone " + out, UNKNOWN, x -> x.paint(false, 3, out, 2, -1));
        }
        for (int out : outside(2)) {
            refused("paint, column " + out, UNKNOWN, x -> x.paint(true, 0, 1, out, 1));
            refused("paint, column and tone " + out, UNKNOWN, x -> x.paint(false, 3, 5, out, 10));
        }
        for (int out : outside(9)) {
            refused("paint, tone " + out, BAD_VALUE, x -> x.paint(false, 0, 0, 0, out));
            refused("paint, tone " + out, BAD_VALUE, x -> x.paint(true, 3, 5, 2, out));
        }
        refused("paint, has it already", NONE, HalfFaces::new, x -> x.paint(false, 0, 0, 0, 0));
        refused("paint, has it already", NONE, Scenes::begun, x -> x.paint(true, 3, 5, 2, 7));
        refused("paint, has it already", NONE, Scenes::busy, x -> x.paint(false, 3, 4, 1, 6));
    }

    /** Each painter has 5 minutes, but the left painter 2, who has none and has painted a 5. */
    private static HalfFaces withFewMinutes() {
        HalfFaces x = new HalfFaces();
        x.set(1, 5);
        x.hour();
        x.paint(false, 2, 3, 1, 5);
        return x;
    }

    private static void paintNotPossible() {
        Supplier<HalfFaces> few = RefusedTest::withFewMinutes;
        refused("paint 6 of 5 minutes", NOT_POSSIBLE, few, x -> x.paint(true, 2, 3, 1, 6));
        refused("paint 9 of 5 minutes", NOT_POSSIBLE, few, x -> x.paint(true, 2, 3, 1, 9));
        refused("paint one less of 0 minutes", NOT_POSSIBLE, few, x -> x.paint(false, 2, 3, 1, 4));
        refused("paint one more of 0 minutes", NOT_POSSIBLE, few, x -> x.paint(false, 2, 3, 1, 6));
        refused("paint the same of 0 minutes", NONE, few, x -> x.paint(false, 2, 3, 1, 5));
        refused("paint 10 of 5 minutes", BAD_VALUE, few, x -> x.paint(true, 2, 3, 1, 10));
        refused("paint 10 of 0 minutes", BAD_VALUE, few, x -> x.paint(false, 2, 3, 1, 10));
        refused("paint no row of 0 minutes", UNKNOWN, few, x -> x.paint(false, 2, 6, 1, 9));
    }

    private static void correct() {
        for (int out : outside(3)) {
            refused("correct, left painter " + out, UNKNOWN, x -> x.correct(false, out, 1));
            refused("correct, right painter " + out, UNKNOWN, x -> x.correct(true, out, 200));
            refused("correct, painter and minutes " + out, UNKNOWN, x -> x.correct(true, out, 0));
        }
        for (int out : outside(200)) {
            refused("correct, minutes " + out, BAD_VALUE, x -> x.correct(false, 0, out));
            refused("correct, minutes " + out, BAD_VALUE, x -> x.correct(true, 3, out));
        }
        refused("correct, minutes 0", BAD_VALUE, x -> x.correct(false, 0, 0));
        refused("correct without an error", NONE, HalfFaces::new, x -> x.correct(true, 3, 200));
        Supplier<HalfFaces> few = RefusedTest::withFewMinutes;
        refused("correct without minutes", NONE, few, x -> x.correct(false, 2, 1));
        refused("correct -1 without minutes", BAD_VALUE, few, x -> x.correct(false, 2, -1));
    }

    private static void copy() {
        for (int out : outside(3)) {
            refused("copy, painter " + out, UNKNOWN, x -> x.copy(false, out, 0));
            refused("copy, other " + out, UNKNOWN, x -> x.copy(false, 0, out));
            refused("copy, painter " + out, UNKNOWN, x -> x.copy(true, out, 3));
            refused("copy, other " + out, UNKNOWN, x -> x.copy(true, 3, out));
            refused("copy, both " + out, UNKNOWN, x -> x.copy(true, out, out));
        }
        for (int painter = 0; painter < 4; painter++) {
            int self = painter;
            refused("copy of oneself", NONE, x -> x.copy(false, self, self));
            refused("copy of oneself", NONE, x -> x.copy(true, self, self));
        }
        refused("copy of one alike", NONE, HalfFaces::new, x -> x.copy(true, 0, 3));
        refused("copy of one alike", NONE, Scenes::busy, x -> x.copy(true, 0, 1));
    }

    private static void copyNotPossible() {
        Supplier<HalfFaces> sixtyOne = () -> Check.with(new HalfFaces(), "R00:999,R01:999,R02:007");
        refused("copy, 61 of 60 minutes", NOT_POSSIBLE, sixtyOne, x -> x.copy(true, 3, 0));
        refused("copy, 61 of 60 minutes, downwards", NOT_POSSIBLE, sixtyOne, x -> x.copy(true, 0, 3));
        refused("copy, no painter", UNKNOWN, sixtyOne, x -> x.copy(true, 4, 0));
        refused("copy, the other side is alike", NONE, sixtyOne, x -> x.copy(false, 3, 0));
        Supplier<HalfFaces> few = RefusedTest::withFewMinutes;
        refused("copy, 5 of 0 minutes", NOT_POSSIBLE, few, x -> x.copy(false, 2, 0));
        refused("copy of oneself without minutes", NONE, few, x -> x.copy(false, 2, 2));
        refused("copy of nobody without minutes", UNKNOWN, few, x -> x.copy(false, 2, 4));
    }

    private static void readRows() {
        refused("readRows of the empty text", -1000100, HalfFaces::new, HalfFaces::readRows);
        refused("readRows, too early", -1000108, Scenes::begun, HalfFaces::readRows);
        Supplier<HalfFaces> lastWrong = () -> {
            HalfFaces x = Scenes.busy();
            Check.type(x, "0:111111,1:222222,2:333333,3:444444,4:555555,L10:678,R35:90,");
            return x;
        };
        refused("readRows, the last character is wrong", -1000159, lastWrong, HalfFaces::readRows);
        Supplier<HalfFaces> fullTooEarly = () -> {
            HalfFaces x = Scenes.busy();
            Check.type(x, "L00:111,L01:111,L02:111,L03:111,L10:111,L20:111,L30:111,0:11");
            return x;
        };
        refused("readRows, a full text that ends too early", -1000160, fullTooEarly, HalfFaces::readRows);
    }

    private static void pair() {
        for (int out : outside(3)) {
            refused("pair, left " + out, UNKNOWN, x -> x.pair(out, 0));
            refused("pair, right " + out, UNKNOWN, x -> x.pair(0, out));
            refused("pair, left " + out, UNKNOWN, x -> x.pair(out, 3));
            refused("pair, right " + out, UNKNOWN, x -> x.pair(3, out));
            refused("pair, both " + out, UNKNOWN, x -> x.pair(out, out));
        }
        for (int painter = 0; painter < 4; painter++) {
            int same = painter;
            refused("pair, a pair already", NONE, HalfFaces::new, x -> x.pair(same, same));
        }
        refused("pair, a pair already", NONE, Scenes::busy, x -> x.pair(0, 2));
        refused("pair, a pair already", NONE, Scenes::busy, x -> x.pair(2, 0));
    }

    private static void pairBest() {
        refused("pairBest, the best already", NONE, HalfFaces::new, HalfFaces::pairBest);
        Supplier<HalfFaces> made = () -> {
            HalfFaces x = Scenes.busy();
            CHECK.due("the busy scene has other pairs than the best", x.pairBest() > 0);
            return x;
        };
        refused("pairBest again", NONE, made, HalfFaces::pairBest);
    }

    private static void type() {
        refused("type a 61st", HalfFaces.FULL, Scenes::busy, x -> x.type(','));
        refused("type a 61st", HalfFaces.FULL, Scenes::busy, x -> x.type((char) 0));
        refused("type a 61st", HalfFaces.FULL, Scenes::busy, x -> x.type((char) 65535));
    }

    private static void undo() {
        refused("undo of none", NONE, HalfFaces::new, HalfFaces::undo);
        Supplier<HalfFaces> emptied = () -> {
            HalfFaces x = Scenes.busy();
            for (int left = 3; left >= 0; left--) {
                CHECK.due("undo", x.undo(), left);
            }
            return x;
        };
        refused("undo of none after four", NONE, emptied, HalfFaces::undo);
    }

    private static void restore() {
        refused("restore without a snapshot", NONE, HalfFaces::new, HalfFaces::restore);
        refused("restore without a snapshot", NONE, Scenes::begun, HalfFaces::restore);
    }

    private static void sitterAndTone() {
        for (int out : outside(5)) {
            refused("sitter, row " + out, UNKNOWN, x -> x.sitter(out, 0));
            refused("sitter, column " + out, UNKNOWN, x -> x.sitter(0, out));
            refused("sitter, column " + out, UNKNOWN, x -> x.sitter(5, out));
            refused("tone, row " + out, UNKNOWN, x -> x.tone(false, 0, out, 0));
            refused("tone, row " + out, UNKNOWN, x -> x.tone(true, 3, out, 2));
        }
        for (int out : outside(3)) {
            refused("tone, left painter " + out, UNKNOWN, x -> x.tone(false, out, 0, 0));
            refused("tone, right painter " + out, UNKNOWN, x -> x.tone(true, out, 5, 2));
        }
        for (int out : outside(2)) {
            refused("tone, column " + out, UNKNOWN, x -> x.tone(false, 0, 0, out));
            refused("tone, column " + out, UNKNOWN, x -> x.tone(true, 3, 5, out));
        }
    }

    private static void painter() {
        for (int out : outside(3)) {
            refused("painter, left " + out, UNKNOWN, x -> x.painter(false, out, 0));
            refused("painter, right " + out, UNKNOWN, x -> x.painter(true, out, 7));
            refused("painter, right and what " + out, UNKNOWN, x -> x.painter(true, out, 8));
            refused("painter, left and what " + out, UNKNOWN, x -> x.painter(false, out, -1));
        }
        for (int out : outside(7)) {
            refused("painter, what " + out, BAD_VALUE, x -> x.painter(false, 0, out));
            refused("painter, what " + out, BAD_VALUE, x -> x.painter(true, 3, out));
        }
    }

    private static void face() {
        for (int out : outside(3)) {
            refused("face, left " + out, UNKNOWN, x -> x.face(out, 0, 0));
            refused("face, right " + out, UNKNOWN, x -> x.face(0, out, 3));
            refused("face, left and what " + out, UNKNOWN, x -> x.face(out, 3, 4));
            refused("face, right and what " + out, UNKNOWN, x -> x.face(3, out, -1));
            refused("face, what " + out, BAD_VALUE, x -> x.face(3, 3, out));
            refused("face, what " + out, BAD_VALUE, x -> x.face(0, 1, out));
        }
        refused("face, no row with a break", NONE, HalfFaces::new, x -> x.face(0, 0, 2));
        refused("face, no row with a break", NONE, Scenes::begun, x -> x.face(0, 3, 2));
    }

    private static void bestFor() {
        for (int out : outside(3)) {
            refused("bestFor " + out, UNKNOWN, x -> x.bestFor(out));
        }
    }

    private static void ranked() {
        for (int out : outside(3)) {
            refused("ranked, rank " + out, BAD_VALUE, x -> x.ranked(out, 0));
            refused("ranked, rank and what " + out, BAD_VALUE, x -> x.ranked(out, 3));
        }
        for (int out : outside(2)) {
            refused("ranked, what " + out, BAD_VALUE, x -> x.ranked(0, out));
            refused("ranked, what " + out, BAD_VALUE, x -> x.ranked(3, out));
        }
    }

    private static void count() {
        for (int out : outside(10)) {
            refused("count " + out, BAD_VALUE, x -> x.count(out));
        }
    }
}
