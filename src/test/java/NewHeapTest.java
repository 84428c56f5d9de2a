/** Promise 1. */
public final class NewHeapTest {
    private static final int[] RIGHT = {20, 21, 499, 500, 501, 4999, 5000};
    private static final int[] WRONG = {19, 5001, 0, -1, -500, Integer.MIN_VALUE, Integer.MAX_VALUE};

    public static void main(String[] args) {
        Due due = new Due("promise 1, a new object");
        for (int cells : RIGHT) {
            due.yes(cells + " cells are there", fills(cells, cells));
            due.no(cells + " cells and no more", fills(cells, cells + 1));
        }
        for (int cells : WRONG) {
            due.yes("500 cells for " + cells, fills(cells, 500));
            due.no("no more than 500 cells for " + cells, fills(cells, 501));
        }
        VisibleHeap x = new VisibleHeap(100);
        for (int r = 0; r < 8; r++) {
            due.is("register " + r + " at first", x.look(r, 0), 6);
        }
        for (int what = 0; what < 6; what++) {
            due.is("count(" + what + ") at first", x.count(what), 0);
        }
        due.end();
    }

    /** Whether a chain of vectors, each holding the one before, can take up just so many cells. */
    private static boolean fills(int cells, int wanted) {
        VisibleHeap x = new VisibleHeap(cells);
        int left = wanted;
        while (left > 0) {
            // The last vector needs 4 cells at least, to hold the one before.
            int taken = left <= 103 ? left : Math.min(103, left - 4);
            if (x.make(0, 1, 0, 0, taken - 3) != 1) {
                return false;
            }
            left -= taken;
        }
        return x.count(0) == wanted;
    }
}
