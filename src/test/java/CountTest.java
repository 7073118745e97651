/** Promise 23: count. */
public final class CountTest {
    private static final Check CHECK = new Check();

    public static void main(String[] args) {
        HalfFaces x = Check.with(new HalfFaces(), "L00:005,R10:500,0:900009");
        // The errors: 9 of each half, and 5 more of the left half 0 and of the right half 1.
        x.set(0, 3);
        x.set(1, 90);
        x.hour();
        x.hour();
        x.show();
        x.show();
        x.show();
        x.type('a');
        x.type('b');
        due(x, new int[] {3, 90, 2, 3, 510, 2, 4000 - 5 * 82 - 100, 4000 - 5 * 82, 82, 4, 2});
        x.pair(0, 1);
        x.undo();
        due(x, new int[] {3, 90, 2, 3, 510, 2, 4000 - 5 * 82 - 100, 4000 - 5 * 82, 82, 3, 2});
        for (int what : new int[] {-1, 11, Integer.MIN_VALUE, Integer.MAX_VALUE}) {
            CHECK.due("count(" + what + ")", x.count(what), HalfFaces.BAD_VALUE);
        }
        CHECK.end();
    }

    private static void due(HalfFaces x, int[] counts) {
        for (int what = 0; what < counts.length; what++) {
            CHECK.due("count(" + what + ")", x.count(what), counts[what]);
        }
    }
}
