/** Promises 8, 12 and 13: readRows, type, clearText. */
public final class RowsTest {
    private static final Check CHECK = new Check();

    public static void main(String[] args) {
        type();
        readSitterRows();
        readHalfRows();
        laterEntriesStand();
        faults();
        everyPlace();
        allOrNone();
        oneAct();
        CHECK.end();
    }

    private static void type() {
        HalfFaces x = new HalfFaces();
        CHECK.due("clearText of none", x.clearText(), 0);
        for (int i = 1; i <= 60; i++) {
            CHECK.due("type", x.type((char) (i * 1000)), i);
        }
        CHECK.due("type a 61st", x.type('0'), HalfFaces.FULL);
        CHECK.due("length", x.count(10), 60);
        CHECK.due("clearText", x.clearText(), 60);
        CHECK.due("length", x.count(10), 0);
        CHECK.due("type", x.type('0'), 1);
        CHECK.due("typing is no act", x.count(9), 0);
        x.hour();
        x.clearText();
        x.type('L');
        x.undo();
        CHECK.due("undo leaves the text", x.count(10), 1);
    }

    private static void readSitterRows() {
        HalfFaces x = new HalfFaces();
        Check.type(x, "0:012345,5:987654");
        CHECK.due("readRows", x.readRows(), 2);
        for (int column = 0; column < 6; column++) {
            CHECK.due("row 0", x.sitter(0, column), column);
            CHECK.due("row 1", x.sitter(1, column), 0);
            CHECK.due("row 5", x.sitter(5, column), 9 - column);
        }
        CHECK.due("the text stays", x.count(10), 17);
        CHECK.due("readRows again", x.readRows(), 2);
        CHECK.due("which is an act too", x.count(9), 2);
        CHECK.due("a tone", x.tone(false, 0, 0, 1), 0);
    }

    private static void readHalfRows() {
        HalfFaces x = new HalfFaces();
        Check.type(x, "L00:123,R35:987,L31:001,R04:020,L25:444,R12:310,R20:111");
        CHECK.due("length", x.count(10), 55);
        CHECK.due("readRows", x.readRows(), 7);
        CHECK.due("L00 0", x.tone(false, 0, 0, 0), 1);
        CHECK.due("L00 2", x.tone(false, 0, 0, 2), 3);
        CHECK.due("R35 0", x.tone(true, 3, 5, 0), 9);
        CHECK.due("R35 2", x.tone(true, 3, 5, 2), 7);
        CHECK.due("L31", x.tone(false, 3, 1, 2), 1);
        CHECK.due("R04", x.tone(true, 0, 4, 1), 2);
        CHECK.due("L25", x.tone(false, 2, 5, 1), 4);
        CHECK.due("R12", x.tone(true, 1, 2, 0), 3);
        CHECK.due("R20", x.tone(true, 2, 0, 2), 1);
        CHECK.due("no minutes", x.hour(), 480);
        x.set(1, 1);
        x.hour();
        Check.type(x, "L00:999");
        CHECK.due("whatever minutes there are", x.readRows(), 1);
        CHECK.due("minutes stay", x.painter(false, 0, 0), 1);
        CHECK.due("the sitter stays", x.sitter(0, 0), 0);
    }

    private static void laterEntriesStand() {
        HalfFaces x = new HalfFaces();
        Check.type(x, "0:111111,0:222222,L00:333,L00:444");
        CHECK.due("readRows", x.readRows(), 4);
        CHECK.due("sitter", x.sitter(0, 5), 2);
        CHECK.due("half", x.tone(false, 0, 0, 0), 4);
    }

    private static void fault(String text, int at) {
        HalfFaces x = new HalfFaces();
        Check.type(x, text);
        CHECK.due("readRows of '" + text + "'", x.readRows(), -1000100 - at);
        CHECK.due("no act of '" + text + "'", x.count(9), 0);
        CHECK.due("the text stays", x.count(10), text.length());
    }

    private static void faults() {
        fault("", 0);
        fault(" ", 0);
        fault(",", 0);
        fault("6:000000", 0);
        fault("0;", 1);
        fault("00:000", 1);
        fault("0:00000", 7);
        fault("0:0000:0", 6);
        fault("0:0000000", 8);
        fault("0:000000 ", 8);
        fault("0:000000,", 9);
        fault("0:000000,,", 9);
        fault("0:000000;0:000000", 8);
        fault("l00:000", 0);
        fault("r00:000", 0);
        fault("L", 1);
        fault("L4", 1);
        fault("L:", 1);
        fault("LL0:000", 1);
        fault("R06:000", 2);
        fault("R000:", 3);
        fault("R05:", 4);
        fault("R05:00", 6);
        fault("R05:00,", 6);
        fault("R05:0000", 7);
        fault("R05:000,L", 9);
        fault("R05:000,3:12345", 15);
        fault("R05:000,3:123,56", 13);
        fault("L00:123,R35:987,L31:001,R04:020,L25:444,R12:310,R20:111,", 56);
        fault("L00:123,R35:987,L31:001,R04:020,L25:444,R12:310,R20:111,L00:", 60);
        fault("0:00000\u0130", 7);
        fault("0:00000\u0660", 7);
        fault("\u0000:000000", 0);
        fault("0:000000\u0000", 8);
    }

    // Each character from 0 to 300 at each place of a text of both kinds of entries.
    private static void everyPlace() {
        String text = "R25:987,4:123456";
        String[] allowed = {"LR", "0123", "012345", ":", "0123456789", "0123456789", "0123456789", ",", "012345", ":",
            "0123456789", "0123456789", "0123456789", "0123456789", "0123456789", "0123456789"};
        for (int place = 0; place < text.length(); place++) {
            for (char c = 0; c <= 300; c++) {
                HalfFaces x = new HalfFaces();
                Check.type(x, text.substring(0, place) + c + text.substring(place + 1));
                int want = allowed[place].indexOf(c) >= 0 ? 2 : -1000100 - place;
                if (place == 0 && c >= '0' && c <= '5') {
                    want = -1000101;
                } else if (place == 8 && (c == 'L' || c == 'R')) {
                    want = -1000109;
                }
                CHECK.due("the character " + (int) c + " at " + place, x.readRows(), want);
            }
        }
    }

    private static void allOrNone() {
        HalfFaces x = new HalfFaces();
        Check.type(x, "0:123456,L00:789,0:12345");
        CHECK.due("readRows", x.readRows(), -1000100 - 24);
        CHECK.due("the sitter stays", x.sitter(0, 0), 0);
        CHECK.due("the half stays", x.tone(false, 0, 0, 0), 0);
    }

    private static void oneAct() {
        HalfFaces x = Check.with(new HalfFaces(), "0:123456,L00:789,R00:789");
        CHECK.due("one act", x.count(9), 1);
        CHECK.due("undo", x.undo(), 0);
        CHECK.due("sitter after undo", x.sitter(0, 0), 0);
        CHECK.due("half after undo", x.tone(true, 0, 0, 2), 0);
    }
}
