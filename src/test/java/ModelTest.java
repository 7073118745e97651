/** Long runs of all calls, mixed by a fixed series of numbers, beside the plain model. */
public final class ModelTest {
    private static final int OBJECTS = 400;
    private static final int CALLS = 512;

    private static final Check CHECK = new Check();

    private long series;
    private HalfFaces x;
    private PlainModel model;
    private int greatestTone;
    private boolean texts;
    private String toType = "";

    public static void main(String[] args) {
        for (int run = 0; run < OBJECTS; run++) {
            new ModelTest().run(run);
        }
        CHECK.end();
    }

    private void run(int run) {
        series = run * 7919L + 17;
        x = new HalfFaces();
        model = new PlainModel();
        greatestTone = run % 3 == 0 ? 1 : run % 3 == 1 ? 3 : 9;
        texts = run % 2 == 0;
        for (int call = 0; call < CALLS; call++) {
            if (!toType.isEmpty()) {
                typeNext(run, call);
            } else if (next(2) == 0) {
                change(run + "/" + call + ": ");
            } else {
                look(run + "/" + call + ": ");
            }
        }
    }

    private int next(int bound) {
        series = series * 6364136223846793005L + 1442695040888963407L;
        return (int) ((series >>> 33) % bound);
    }

    /** Mostly a number from 0 to the greatest, sometimes one outside. */
    private int upTo(int greatest) {
        int kind = next(60);
        if (kind == 0) {
            return -1;
        }
        if (kind == 1) {
            return greatest + 1;
        }
        if (kind == 2) {
            return next(2) == 0 ? Integer.MIN_VALUE : Integer.MAX_VALUE;
        }
        return next(greatest + 1);
    }

    private int tone() {
        return next(25) == 0 ? upTo(9) : next(greatestTone + 1);
    }

    private int minutes() {
        return next(3) == 0 ? upTo(200) : 1 + next(20);
    }

    private void typeNext(int run, int call) {
        char c = toType.charAt(0);
        toType = toType.substring(1);
        if (c == '!') {
            CHECK.due(run + "/" + call + ": clearText()", x.clearText(), model.clearText());
        } else if (c == '?') {
            CHECK.due(run + "/" + call + ": readRows()", x.readRows(), model.readRows());
        } else {
            CHECK.due(run + "/" + call + ": type(" + (int) c + ")", x.type(c), model.type(c));
        }
    }

    private String rows() {
        StringBuilder text = new StringBuilder("!");
        for (int entries = 1 + next(8); entries > 0; entries--) {
            boolean sitter = next(3) == 0;
            text.append(sitter ? "" : next(2) == 0 ? "L" + next(4) : "R" + next(4)).append(next(6)).append(':');
            for (int i = 0; i < (sitter ? 6 : 3); i++) {
                text.append(next(greatestTone + 1));
            }
            text.append(entries > 1 ? "," : "");
        }
        if (next(4) == 0) {
            text.setCharAt(1 + next(text.length() - 1), "0123456789:,LR l;/\u0130".charAt(next(19)));
        }
        if (next(6) == 0) {
            text.setLength(1 + next(text.length()));
        }
        return text.append('?').toString();
    }

    private void change(String at) {
        boolean right = next(2) == 0;
        int a = upTo(3);
        int b = upTo(3);
        int row = upTo(5);
        int tone = tone();
        int kind = next(22);
        if (kind < 2) {
            int column = upTo(5);
            CHECK.due(at + "sit", x.sit(row, column, tone), model.sit(row, column, tone));
        } else if (kind < 4) {
            int what = upTo(1);
            int value = what == 0 ? upTo(9) : minutes();
            CHECK.due(at + "set " + what + " " + value, x.set(what, value), model.set(what, value));
        } else if (kind < 8) {
            int column = upTo(2);
            CHECK.due(at + "paint", x.paint(right, a, row, column, tone), model.paint(right, a, row, column, tone));
        } else if (kind < 10) {
            int minutes = minutes();
            CHECK.due(at + "correct " + minutes, x.correct(right, a, minutes), model.correct(right, a, minutes));
        } else if (kind < 12) {
            CHECK.due(at + "copy", x.copy(right, a, b), model.copy(right, a, b));
        } else if (kind < 13) {
            CHECK.due(at + "hour", x.hour(), model.hour());
        } else if (kind < 14) {
            toType = texts ? rows() : "";
        } else if (kind < 16) {
            CHECK.due(at + "pair " + a + " " + b, x.pair(a, b), model.pair(a, b));
        } else if (kind < 17) {
            CHECK.due(at + "pairBest", x.pairBest(), model.pairBest());
        } else if (kind < 18) {
            CHECK.due(at + "show", x.show(), model.show());
        } else if (kind < 20) {
            CHECK.due(at + "undo", x.undo(), model.undo());
        } else if (kind < 21) {
            CHECK.due(at + "keep", x.keep(), model.keep());
        } else {
            CHECK.due(at + "restore", x.restore(), model.restore());
        }
    }

    private void look(String at) {
        boolean right = next(2) == 0;
        int a = upTo(3);
        int b = upTo(3);
        int row = upTo(5);
        int kind = next(7);
        if (kind == 0) {
            int column = upTo(5);
            CHECK.due(at + "sitter", x.sitter(row, column), model.sitter(row, column));
        } else if (kind == 1) {
            int column = upTo(2);
            CHECK.due(at + "tone", x.tone(right, a, row, column), model.tone(right, a, row, column));
        } else if (kind == 2) {
            int what = upTo(7);
            CHECK.due(at + "painter " + right + " " + a + " " + what, x.painter(right, a, what),
                    model.painter(right, a, what));
        } else if (kind == 3) {
            int what = upTo(3);
            CHECK.due(at + "face " + a + " " + b + " " + what, x.face(a, b, what), model.face(a, b, what));
        } else if (kind == 4) {
            CHECK.due(at + "bestFor " + a, x.bestFor(a), model.bestFor(a));
        } else if (kind == 5) {
            int what = upTo(2);
            CHECK.due(at + "ranked " + a + " " + what, x.ranked(a, what), model.ranked(a, what));
        } else {
            int what = upTo(10);
            CHECK.due(at + "count " + what, x.count(what), model.count(what));
        }
    }
}
