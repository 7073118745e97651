import java.util.List;
import java.util.function.Supplier;

/** Objects to try a call on, each in another situation; the same call makes the same object every time. */
final class Scenes {
    static final List<Supplier<HalfFaces>> ALL = List.of(HalfFaces::new, Scenes::begun, Scenes::busy);

    private Scenes() {
    }

    /** Two states in the history, no snapshot, a text with a fault at its end. */
    static HalfFaces begun() {
        HalfFaces x = new HalfFaces();
        x.sit(5, 5, 8);
        x.paint(true, 3, 5, 2, 7);
        Check.type(x, "L00:123,");
        return x;
    }

    /** Every number is used, the history is full, the snapshot and the full text differ from all of its states. */
    static HalfFaces busy() {
        HalfFaces x = Check.with(new HalfFaces(), "0:123456,3:908172,5:000444",
                "L00:120,R13:809,L25:003,R35:777,L10:129");
        x.set(1, 45);
        x.hour();
        x.show();
        x.keep();
        x.pair(0, 2);
        x.correct(true, 1, 30);
        x.set(0, 2);
        x.paint(false, 3, 4, 1, 6);
        x.show();
        x.copy(true, 0, 1);
        x.sit(2, 2, 9);
        x.correct(false, 2, 9);
        Check.type(x, "0:111111,1:222222,2:333333,3:444444,4:555555,L10:678,R35:901");
        return x;
    }
}
