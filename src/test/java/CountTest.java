/** Promise 14. */
public final class CountTest {
    public static void main(String[] args) {
        Due due = new Due("promise 14, count");
        VisibleHeap x = new VisibleHeap(60);
        x.make(0, 4, 7, 7, 0);
        x.make(1, 0, 7, 7, 0);
        x.put(0, 1, 1);
        x.put(0, 7, 1);
        x.put(0, 7, 7);
        counts(due, x, 17, 4, 0, 0, 0, 0);
        x.register(1, 7);
        x.register(1, 7);
        x.register(0, 7);
        x.look(1, 1);
        counts(due, x, 17, 4, 0, 0, 3, 1);
        x.copy(1, -1);
        counts(due, x, 17, 4, 0, 0, 3, 1);
        x.collect();
        counts(due, x, 12, 3, 1, 2, 1, 1);
        x.next(2, 3);
        counts(due, x, 12, 3, 1, 1, 1, 1);
        x.look(2, 1);
        x.look(0, 1);
        x.make(4, 1, 7, 7, 50);
        counts(due, x, 12, 3, 2, 1, 1, 2);
        x.copy(2, -1);
        x.next(5, 6);
        x.copy(5, -1);
        x.collect();
        counts(due, x, 8, 2, 3, 0, 1, 2);
        for (int what : new int[] {-1, 6, 7, Integer.MIN_VALUE, Integer.MAX_VALUE}) {
            due.is("count(" + what + ")", x.count(what), -1);
        }
        due.end();
    }

    private static void counts(Due due, VisibleHeap x, int... want) {
        for (int what = 0; what < want.length; what++) {
            due.is("count(" + what + ")", x.count(what), want[what]);
        }
    }
}
