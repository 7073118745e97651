/** Promises 9, 10, 11, 20, 21 and 22: pair, pairBest, show, face, bestFor, ranked. */
public final class PairsTest {
    private static final Check CHECK = new Check();
    private static final int[] OUTSIDE = {-1, 4, Integer.MIN_VALUE, Integer.MAX_VALUE};

    public static void main(String[] args) {
        pair();
        pairOutside();
        breaks();
        breaksOfTheseHalvesAlone();
        breaksLikeTheSitter();
        likeness();
        faceOutside();
        bestPairs();
        bestPairsOfSeveral();
        show();
        exactly500();
        nobody();
        rankedOfEqual();
        rankedOutside();
        CHECK.end();
    }

    private static void pairsDue(HalfFaces x, int... rights) {
        for (int left = 0; left < 4; left++) {
            CHECK.due("the right one of " + left, x.painter(false, left, 2), rights[left]);
            CHECK.due("the left one of " + rights[left], x.painter(true, rights[left], 2), left);
        }
    }

    private static void pair() {
        HalfFaces x = Check.with(new HalfFaces(), "L00:100,R20:030");
        CHECK.due("pair(0, 2)", x.pair(0, 2), 1000 - 5 * 4);
        pairsDue(x, 2, 1, 0, 3);
        CHECK.due("pair(0, 2) again", x.pair(0, 2), HalfFaces.NONE);
        CHECK.due("pair(3, 2)", x.pair(3, 2), 985);
        pairsDue(x, 3, 1, 0, 2);
        CHECK.due("pair(1, 1)", x.pair(1, 1), HalfFaces.NONE);
        CHECK.due("acts", x.count(9), 3);
        CHECK.due("undo", x.undo(), 2);
        pairsDue(x, 2, 1, 0, 3);
    }

    private static void pairOutside() {
        HalfFaces x = new HalfFaces();
        for (int outside : OUTSIDE) {
            CHECK.due("pair outside", x.pair(outside, 0), HalfFaces.UNKNOWN);
            CHECK.due("pair outside", x.pair(0, outside), HalfFaces.UNKNOWN);
            CHECK.due("bestFor outside", x.bestFor(outside), HalfFaces.UNKNOWN);
        }
        CHECK.due("no act", x.count(9), 0);
        pairsDue(x, 0, 1, 2, 3);
    }

    private static void breaks() {
        HalfFaces x = Check.with(new HalfFaces(), "L11:991,L12:002,L13:000,R23:299,R24:199,R25:900");
        // At the line the rows of the face (1, 2) are 0 0, 1 0, 2 0, 0 2, 0 1 and 0 9.
        CHECK.due("breaks", x.face(1, 2, 1), 3);
        CHECK.due("the first one", x.face(1, 2, 2), 2);
        CHECK.due("the sum", x.face(1, 2, 3), 1 + 2 + 2 + 1 + 9);
        CHECK.due("of others", x.face(2, 1, 1), 0);
        CHECK.due("none", x.face(2, 1, 2), HalfFaces.NONE);
        x.set(0, 0);
        CHECK.due("tolerance 0", x.face(1, 2, 1), 5);
        CHECK.due("the first one", x.face(1, 2, 2), 1);
        x.set(0, 2);
        CHECK.due("tolerance 2", x.face(1, 2, 1), 1);
        CHECK.due("the first one", x.face(1, 2, 2), 5);
        x.set(0, 8);
        CHECK.due("tolerance 8", x.face(1, 2, 1), 1);
        x.set(0, 9);
        CHECK.due("tolerance 9", x.face(1, 2, 1), 0);
        CHECK.due("no first one", x.face(1, 2, 2), HalfFaces.NONE);
        CHECK.due("the sum", x.face(1, 2, 3), 15);
    }

    private static void breaksOfTheseHalvesAlone() {
        HalfFaces x = Check.with(new HalfFaces(), "L10:009,R10:009,R00:009,L20:990", "L00:002");
        CHECK.due("breaks", x.face(0, 0, 1), 1);
        CHECK.due("the first row", x.face(0, 0, 2), 0);
        CHECK.due("the sum", x.face(0, 0, 3), 2);
        CHECK.due("no breaks", x.face(2, 2, 1), 0);
        CHECK.due("all breaks", x.count(5), 2);
        Check.with(x, "L00:000,L10:000");
        CHECK.due("no first row, whatever the next painters have", x.face(0, 0, 2), HalfFaces.NONE);
        CHECK.due("the sum", x.face(0, 0, 3), 0);
        CHECK.due("all breaks", x.count(5), 0);
        Check.with(x, "L10:009");
        CHECK.due("no first row, whatever the next painters have", x.face(0, 0, 2), HalfFaces.NONE);
        CHECK.due("the sum", x.face(0, 0, 3), 0);
    }

    private static void breaksLikeTheSitter() {
        HalfFaces x = Check.with(new HalfFaces(), "0:002700,1:007200,2:002700,3:009000", "L00:001,R00:600",
                "L01:001,R01:600", "L02:001,R02:700", "L03:000,R03:000");
        // Row 0: 5 up as the sitter. Row 1: 5 up, the sitter 5 down. Row 2: 6 up, the sitter 5. Row 3: even.
        CHECK.due("breaks", x.face(0, 0, 1), 2);
        CHECK.due("the first one", x.face(0, 0, 2), 1);
        CHECK.due("the sum is that of the halves", x.face(0, 0, 3), 5 + 5 + 6);
        CHECK.due("all breaks", x.count(5), 2);
        Check.with(x, "L01:007,R01:200");
        CHECK.due("breaks", x.face(0, 0, 1), 1);
        CHECK.due("the first one", x.face(0, 0, 2), 2);
    }

    private static void likeness() {
        HalfFaces x = Check.with(new HalfFaces(), "0:100001", "L30:002", "R10:000");
        // Left 3: errors 1 and 2, right 1: error 1; the row 0 is 2 0 at the line.
        CHECK.due("likeness", x.face(3, 1, 0), 1000 - 5 * 4 - 50);
        CHECK.due("of a left one without a break", x.face(0, 1, 0), 1000 - 5 * 2);
        CHECK.due("whether they are a pair or not", x.painter(false, 3, 2), 3);
        Check.with(x, "0:999999,1:999999,2:999999,3:999999,4:999999,5:999999", "L30:008,L31:008,L32:008",
                "L33:008,L34:008,L35:008");
        CHECK.due("below 0", x.face(3, 1, 0), 1000 - 5 * (6 * 19 + 162) - 300);
    }

    private static void faceOutside() {
        HalfFaces x = new HalfFaces();
        for (int outside : OUTSIDE) {
            CHECK.due("face, left", x.face(outside, 0, 0), HalfFaces.UNKNOWN);
            CHECK.due("face, right", x.face(0, outside, 9), HalfFaces.UNKNOWN);
            CHECK.due("face, what", x.face(3, 3, outside), HalfFaces.BAD_VALUE);
        }
    }

    // Left painter i and right painter (i + shift) % 4 meet in row 0 with the tones 2 * i + 1.
    private static HalfFaces matching(int shift) {
        StringBuilder lefts = new StringBuilder();
        StringBuilder rights = new StringBuilder();
        for (int i = 0; i < 4; i++) {
            lefts.append(i == 0 ? "" : ",").append("L").append(i).append("0:00").append(2 * i + 1);
            rights.append(i == 0 ? "" : ",").append("R").append((i + shift) % 4).append("0:").append(2 * i + 1)
                    .append("00");
        }
        return Check.with(new HalfFaces(), lefts.toString(), rights.toString());
    }

    private static void bestPairs() {
        for (int shift = 0; shift < 4; shift++) {
            HalfFaces x = matching(shift);
            int acts = x.count(9);
            for (int left = 0; left < 4; left++) {
                CHECK.due("bestFor", x.bestFor(left), (left + shift) % 4);
            }
            CHECK.due("the sum of the best", x.count(7), 4000 - 5 * 32);
            CHECK.due("the sum before", x.count(6), 4000 - 5 * 32 - (shift == 0 ? 0 : 200));
            CHECK.due("bestFor is no act", x.count(9), acts);
            CHECK.due("pairBest", x.pairBest(), shift == 0 ? HalfFaces.NONE : 4);
            CHECK.due("acts", x.count(9), shift == 0 ? acts : acts + 1);
            pairsDue(x, shift, (1 + shift) % 4, (2 + shift) % 4, (3 + shift) % 4);
            CHECK.due("the sum then", x.count(6), x.count(7));
            CHECK.due("pairBest again", x.pairBest(), HalfFaces.NONE);
        }
        HalfFaces x = matching(0);
        x.pair(1, 3);
        CHECK.due("two of other pairs", x.pairBest(), 2);
        x.undo();
        pairsDue(x, 0, 3, 2, 1);
        x = matching(1);
        Check.with(x, "0:009000");
        CHECK.due("a tie through the sitter", x.bestFor(0), 1);
    }

    private static void bestPairsOfSeveral() {
        HalfFaces x = new HalfFaces();
        x.pair(0, 3);
        x.pair(1, 0);
        CHECK.due("the same sum", x.count(6), x.count(7));
        CHECK.due("just the best ones", x.pairBest(), 3);
        pairsDue(x, 0, 1, 2, 3);
        // Two breaks are the fewest; 2, 0, 1, 3 is the lowest of the pairs with so few.
        x = Check.with(new HalfFaces(), "L00:005,R20:500,R30:500,L11:007", "L21:007,R21:700,R11:700,R01:700");
        for (int right = 0; right < 4; right++) {
            CHECK.due("breaks of 0 and " + right, x.face(0, right, 1), new int[] {2, 2, 1, 0}[right]);
            CHECK.due("breaks of 1 and " + right, x.face(1, right, 1), new int[] {0, 0, 1, 2}[right]);
        }
        CHECK.due("bestFor(0)", x.bestFor(0), 2);
        CHECK.due("bestFor(1)", x.bestFor(1), 0);
        CHECK.due("bestFor(2)", x.bestFor(2), 1);
        CHECK.due("bestFor(3)", x.bestFor(3), 3);
        // The left painters 1 and 2 meet the right ones 0 and 3 without a break, in either way.
        x = Check.with(new HalfFaces(), "R00:500,R30:500,L20:005,L10:004");
        CHECK.due("bestFor(0)", x.bestFor(0), 1);
        CHECK.due("bestFor(1)", x.bestFor(1), 0);
        CHECK.due("bestFor(2)", x.bestFor(2), 3);
        CHECK.due("bestFor(3)", x.bestFor(3), 2);
    }

    private static void coinsDue(HalfFaces x, int[] lefts, int[] rights) {
        for (int painter = 0; painter < 4; painter++) {
            CHECK.due("coins of left " + painter, x.painter(false, painter, 3), lefts[painter]);
            CHECK.due("coins of right " + painter, x.painter(true, painter, 3), rights[painter]);
        }
    }

    private static void show() {
        HalfFaces x = Check.with(new HalfFaces(), "L00:300,L10:100,L20:200,R00:010");
        x.pair(0, 1);
        // The faces: 0 and 1 have 985, 1 and 0 have 990, 2 and 2 have 990, 3 and 3 have 1000.
        int[] lefts = {3, 1, 2, 0};
        int[] likenesses = {1000, 990, 990, 985};
        int[] prizes = {100, 50, 20, 0};
        for (int rank = 0; rank < 4; rank++) {
            CHECK.due("ranked(" + rank + ", 0)", x.ranked(rank, 0), lefts[rank]);
            CHECK.due("ranked(" + rank + ", 1)", x.ranked(rank, 1), likenesses[rank]);
            CHECK.due("ranked(" + rank + ", 2)", x.ranked(rank, 2), prizes[rank]);
        }
        CHECK.due("show", x.show(), 3);
        coinsDue(x, new int[] {0, 25, 10, 50}, new int[] {25, 0, 10, 50});
        CHECK.due("shows", x.count(3), 1);
        CHECK.due("all coins", x.count(4), 170);
        x.pair(0, 3);
        CHECK.due("show", x.show(), 3);
        // Now: 0 and 3 have 985, 1 and 0 have 990, 2 and 2 have 990, 3 and 1 have 1000.
        coinsDue(x, new int[] {0, 50, 20, 100}, new int[] {50, 50, 20, 50});
        CHECK.due("acts", x.count(9), 4);
        CHECK.due("undo", x.undo(), 3);
        coinsDue(x, new int[] {0, 25, 10, 50}, new int[] {25, 0, 10, 50});
        CHECK.due("shows after undo", x.count(3), 1);
    }

    private static void exactly500() {
        HalfFaces x = Check.with(new HalfFaces(), "L00:990,L01:990,L02:990,L03:990,L04:990,L05:910");
        CHECK.due("500", x.face(0, 0, 0), 500);
        Check.with(x, "L10:990,L11:990,L12:990,L13:990,L14:990,L15:920");
        Check.with(x, "L20:990,L21:990,L22:990,L23:990,L24:990,L25:920");
        CHECK.due("495", x.face(1, 1, 0), 495);
        CHECK.due("rank 1", x.ranked(1, 0), 0);
        CHECK.due("its prize", x.ranked(1, 2), 50);
        CHECK.due("rank 2", x.ranked(2, 0), 1);
        CHECK.due("no prize", x.ranked(2, 2), 0);
        CHECK.due("show", x.show(), 2);
        coinsDue(x, new int[] {25, 0, 0, 50}, new int[] {25, 0, 0, 50});
    }

    private static void nobody() {
        HalfFaces x = Check.with(new HalfFaces(), "0:999999,1:999999,2:999999,3:999999");
        CHECK.due("likeness", x.face(0, 0, 0), 1000 - 5 * 216);
        CHECK.due("ranked", x.ranked(0, 2), 0);
        CHECK.due("show", x.show(), 0);
        CHECK.due("which is a show", x.count(3), 1);
        CHECK.due("and an act", x.count(9), 2);
        CHECK.due("without coins", x.count(4), 0);
    }

    private static void rankedOfEqual() {
        HalfFaces x = new HalfFaces();
        x.pair(0, 3);
        for (int rank = 0; rank < 4; rank++) {
            CHECK.due("the lower left painter first", x.ranked(rank, 0), rank);
        }
        CHECK.due("ranked is no act", x.count(9), 1);
        x = Check.with(new HalfFaces(), "L00:300,L10:200,L20:100");
        for (int rank = 0; rank < 4; rank++) {
            CHECK.due("the last painter first", x.ranked(rank, 0), 3 - rank);
            CHECK.due("likeness", x.ranked(rank, 1), 1000 - 5 * rank);
        }
    }

    private static void rankedOutside() {
        HalfFaces x = new HalfFaces();
        for (int outside : OUTSIDE) {
            CHECK.due("ranked, rank", x.ranked(outside, 0), HalfFaces.BAD_VALUE);
        }
        for (int outside : new int[] {-1, 3, Integer.MAX_VALUE}) {
            CHECK.due("ranked, what", x.ranked(0, outside), HalfFaces.BAD_VALUE);
        }
    }
}
