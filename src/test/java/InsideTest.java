/** The smallest and the largest of every parameter are allowed, and do just what they say. */
public final class InsideTest {
    private static final Check CHECK = new Check();
    private static final boolean[] SIDES = {false, true};

    public static void main(String[] args) {
        newObject();
        twoObjects();
        sit();
        setTolerance();
        setMinutes();
        paint();
        correct();
        copy();
        pair();
        readRows();
        type();
        painterWhat();
        faceWhat();
        ranked();
        count();
        CHECK.end();
    }

    private static String name(boolean right, int painter) {
        return (right ? "right " : "left ") + painter;
    }

    private static void newObject() {
        HalfFaces x = new HalfFaces();
        for (int cell = 0; cell < 36; cell++) {
            CHECK.due("a new sitter's tone " + cell, x.sitter(cell / 6, cell % 6), 0);
        }
        for (int cell = 0; cell < 144; cell++) {
            CHECK.due("a new half's tone " + cell, x.tone(cell >= 72, cell / 18 % 4, cell / 3 % 6, cell % 3), 0);
        }
        for (int painter = 0; painter < 4; painter++) {
            int[] told = {60, 0, painter, 0, 0, 0, 0, 18};
            for (int what = 0; what < 8; what++) {
                CHECK.due("a new left painter's " + what, x.painter(false, painter, what), told[what]);
                CHECK.due("a new right painter's " + what, x.painter(true, painter, what), told[what]);
            }
            CHECK.due("a new bestFor", x.bestFor(painter), painter);
            CHECK.due("a new ranking", x.ranked(painter, 0), painter);
            CHECK.due("a new likeness", x.ranked(painter, 1), 1000);
            CHECK.due("a new prize", x.ranked(painter, 2), new int[] {100, 50, 20, 0}[painter]);
        }
    }

    private static void twoObjects() {
        HalfFaces one = Scenes.busy();
        HalfFaces other = new HalfFaces();
        CHECK.due("the other one is new", Look.state(other).equals(Look.state(new HalfFaces())));
        CHECK.due("its history", other.undo(), HalfFaces.NONE);
        CHECK.due("its snapshot", other.restore(), HalfFaces.NONE);
        CHECK.due("its text", other.clearText(), 0);
        CHECK.due("the one keeps its text", one.count(10), 60);
    }

    private static void sit() {
        for (int cell = 0; cell < 36; cell++) {
            HalfFaces x = new HalfFaces();
            CHECK.due("sit 9 at " + cell, x.sit(cell / 6, cell % 6, 9), 0);
            for (int other = 0; other < 36; other++) {
                CHECK.due("sitter at " + other + " then", x.sitter(other / 6, other % 6), other == cell ? 9 : 0);
            }
            CHECK.due("sit 0 at " + cell, x.sit(cell / 6, cell % 6, 0), 9);
            CHECK.due("the sitter is as before", Look.state(x).equals(Look.state(new HalfFaces())));
        }
    }

    private static void setTolerance() {
        HalfFaces x = new HalfFaces();
        int previous = 1;
        for (int tolerance : new int[] {0, 9, 8, 1, 2, 9, 0}) {
            CHECK.due("set(0, " + tolerance + ")", x.set(0, tolerance), previous);
            CHECK.due("the tolerance", x.count(0), tolerance);
            CHECK.due("the minutes of an hour", x.count(1), 60);
            previous = tolerance;
        }
    }

    private static void setMinutes() {
        HalfFaces x = new HalfFaces();
        int previous = 60;
        for (int minutes : new int[] {1, 200, 2, 199, 10, 100, 1}) {
            CHECK.due("set(1, " + minutes + ")", x.set(1, minutes), previous);
            CHECK.due("the minutes of an hour", x.count(1), minutes);
            CHECK.due("the tolerance", x.count(0), 1);
            x.hour();
            CHECK.due("the minutes then", x.painter(true, 3, 0), minutes);
            previous = minutes;
        }
    }

    private static void paint() {
        for (boolean right : SIDES) {
            for (int cell = 0; cell < 72; cell++) {
                HalfFaces x = new HalfFaces();
                int painter = cell / 18;
                int row = cell / 3 % 6;
                int column = cell % 3;
                CHECK.due("paint 9", x.paint(right, painter, row, column, 9), 51);
                for (int other = 0; other < 72; other++) {
                    CHECK.due("tone then", x.tone(right, other / 18, other / 3 % 6, other % 3), other == cell ? 9 : 0);
                    CHECK.due("tone of the other side", x.tone(!right, other / 18, other / 3 % 6, other % 3), 0);
                }
                for (int other = 0; other < 4; other++) {
                    CHECK.due("minutes then", x.painter(right, other, 0), other == painter ? 51 : 60);
                    CHECK.due("minutes of the other side", x.painter(!right, other, 0), 60);
                }
                CHECK.due("paint 0, as far apart", x.paint(right, painter, row, column, 0), 42);
                CHECK.due("the tone is 0 again", x.tone(right, painter, row, column), 0);
            }
        }
    }

    /** Each cell of every half is 9 apart from the sitter, and each painter has 200 minutes. */
    private static HalfFaces farApart() {
        HalfFaces x = Check.with(new HalfFaces(), "0:999999,1:999999,2:999999,3:999999,4:999999,5:999999");
        x.set(1, 200);
        x.hour();
        return x;
    }

    private static void correct() {
        int[] minutes = {1, 2, 161, 162, 163, 199, 200};
        for (boolean right : SIDES) {
            for (int painter = 0; painter < 4; painter++) {
                for (int most : minutes) {
                    HalfFaces x = farApart();
                    int used = Math.min(most, 162);
                    String call = "correct " + name(right, painter) + " by " + most;
                    CHECK.due(call, x.correct(right, painter, most), used);
                    CHECK.due(call + ", the error then", x.painter(right, painter, 1), 162 - used);
                    CHECK.due(call + ", the minutes then", x.painter(right, painter, 0), 200 - used);
                    CHECK.due(call + ", all errors then", x.count(8), 8 * 162 - used);
                    CHECK.due(call + ", the minutes of the others", x.hour(), 1600 - used);
                }
            }
        }
    }

    private static void copy() {
        for (boolean right : SIDES) {
            for (int pair = 0; pair < 16; pair++) {
                int painter = pair / 4;
                int other = pair % 4;
                HalfFaces x = farApart();
                x.correct(right, other, 200);
                String call = "copy of " + name(right, other) + " by " + painter;
                CHECK.due(call, x.copy(right, painter, other), painter == other ? HalfFaces.NONE : 18);
                CHECK.due(call + ", the painter's minutes", x.painter(right, painter, 0), 38);
                CHECK.due(call + ", the other's minutes", x.painter(right, other, 0), 38);
                CHECK.due(call + ", the error", x.painter(right, painter, 1), 0);
                CHECK.due(call + ", all errors", x.count(8), painter == other ? 7 * 162 : 6 * 162);
            }
        }
        HalfFaces x = Check.with(new HalfFaces(), "L35:001");
        CHECK.due("copy of a half with one other cell", x.copy(false, 0, 3), 1);
        CHECK.due("one minute", x.painter(false, 0, 0), 59);
        x.paint(false, 3, 5, 2, 4);
        CHECK.due("the copy stays as the other paints on", x.tone(false, 0, 5, 2), 1);
        x.paint(false, 0, 5, 2, 8);
        CHECK.due("the other stays as the copy is painted on", x.tone(false, 3, 5, 2), 4);
    }

    private static void pair() {
        for (int pair = 0; pair < 16; pair++) {
            int left = pair / 4;
            int right = pair % 4;
            HalfFaces x = new HalfFaces();
            String call = "pair(" + left + ", " + right + ")";
            CHECK.due(call, x.pair(left, right), left == right ? HalfFaces.NONE : 1000);
            for (int other = 0; other < 4; other++) {
                int due = other == left ? right : other == right ? left : other;
                CHECK.due(call + ", the right one of " + other, x.painter(false, other, 2), due);
                CHECK.due(call + ", the left one of " + other, x.painter(true, other, 2), due);
            }
        }
    }

    private static void readRows() {
        for (int row = 0; row < 6; row++) {
            HalfFaces x = Check.with(new HalfFaces(), row + ":901239");
            for (int cell = 0; cell < 36; cell++) {
                CHECK.due("sitter " + cell + " after row " + row, x.sitter(cell / 6, cell % 6),
                        cell / 6 == row ? "901239".charAt(cell % 6) - '0' : 0);
            }
        }
        for (int entry = 0; entry < 48; entry++) {
            boolean right = entry >= 24;
            HalfFaces x = Check.with(new HalfFaces(), (right ? "R" : "L") + entry / 6 % 4 + entry % 6 + ":905");
            for (int cell = 0; cell < 144; cell++) {
                boolean isOfIt = cell / 3 == entry;
                CHECK.due("tone " + cell + " after entry " + entry,
                        x.tone(cell >= 72, cell / 18 % 4, cell / 3 % 6, cell % 3),
                        isOfIt ? "905".charAt(cell % 3) - '0' : 0);
            }
        }
    }

    private static void type() {
        char[] characters = {0, 1, 9, 10, 127, 128, 255, 256, 0x2c2c, 0xd800, 0xdfff, 0xfffe, 0xffff};
        HalfFaces x = new HalfFaces();
        for (int i = 0; i < characters.length; i++) {
            CHECK.due("type " + (int) characters[i], x.type(characters[i]), i + 1);
        }
        CHECK.due("clearText", x.clearText(), characters.length);
    }

    private static void painterWhat() {
        for (boolean right : SIDES) {
            for (int painter = 0; painter < 4; painter++) {
                for (int cell = 0; cell < 18; cell++) {
                    HalfFaces x = new HalfFaces();
                    x.paint(right, painter, cell / 3, cell % 3, 9);
                    int[] due = {51, 9, painter, 0, 9, cell / 3, cell % 3, 17};
                    for (int what = 0; what < 8; what++) {
                        CHECK.due("cell " + cell + " of " + name(right, painter) + " tells " + what,
                                x.painter(right, painter, what), due[what]);
                    }
                }
                HalfFaces x = farApart();
                int[] due = {200, 162, painter, 0, 9, 0, 0, 0};
                for (int what = 0; what < 8; what++) {
                    CHECK.due(name(right, painter) + " tells " + what, x.painter(right, painter, what), due[what]);
                }
            }
        }
    }

    private static void faceWhat() {
        for (int face = 0; face < 16; face++) {
            for (int row = 0; row < 6; row++) {
                HalfFaces x = new HalfFaces();
                x.paint(false, face / 4, row, 2, 9);
                int[] due = {1000 - 45 - 50, 1, row, 9};
                for (int what = 0; what < 4; what++) {
                    CHECK.due("face " + face + " tells " + what, x.face(face / 4, face % 4, what), due[what]);
                }
                x.paint(true, face % 4, row, 0, 9);
                int[] even = {1000 - 90, 0, HalfFaces.NONE, 0};
                for (int what = 0; what < 4; what++) {
                    CHECK.due("even face " + face + " tells " + what, x.face(face / 4, face % 4, what), even[what]);
                }
            }
        }
    }

    private static void ranked() {
        HalfFaces x = Check.with(new HalfFaces(), "L00:900,R30:100");
        int[][] due = {{1, 1000, 100}, {2, 1000, 50}, {3, 995, 20}, {0, 955, 0}};
        for (int rank = 0; rank < 4; rank++) {
            for (int what = 0; what < 3; what++) {
                CHECK.due("ranked(" + rank + ", " + what + ")", x.ranked(rank, what), due[rank][what]);
            }
        }
    }

    private static void count() {
        HalfFaces x = Scenes.begun();
        // Three right halves are 8 apart from the sitter in one cell, the fourth is 1 apart.
        int errors = 3 * 8 + 1;
        int[] due = {1, 60, 0, 0, 0, 0, 4000 - 5 * errors, 4000 - 5 * errors, errors, 2, 8};
        for (int what = 0; what < due.length; what++) {
            CHECK.due("count(" + what + ")", x.count(what), due[what]);
        }
    }
}
