/** Promise 4. */
public final class MakeTest {
    private static final int[] NO_REGISTER = {-1, 8, Integer.MIN_VALUE, Integer.MAX_VALUE};

    public static void main(String[] args) {
        Due due = new Due("promise 4, make");
        kinds(due);
        cells(due);
        refusals(due);
        room(due);
        due.end();
    }

    private static void kinds(Due due) {
        VisibleHeap x = new VisibleHeap(500);
        x.number(0, 11);
        x.number(1, 22);
        due.is("pair", x.make(2, 0, 0, 1, -9), 1);
        value(due, x, 2, 0, 11);
        value(due, x, 2, 1, 22);
        due.is("vector", x.make(2, 1, 1, 99, 3), 1);
        for (int k = 0; k < 3; k++) {
            value(due, x, 2, k, 22);
        }
        due.is("weak", x.make(2, 2, 0, 99, 999), 1);
        value(due, x, 2, 0, 11);
        due.is("ephemeron", x.make(2, 3, 0, 1, 999), 1);
        value(due, x, 2, 0, 11);
        value(due, x, 2, 1, 22);
        due.is("table", x.make(2, 4, 99, -99, 999), 1);
        due.is("a table is empty", x.look(2, 2), 0);
        due.is("r may be s and t", x.make(0, 0, 0, 0, 0), 1);
        value(due, x, 0, 0, 11);
        value(due, x, 0, 1, 11);
    }

    private static void value(Due due, VisibleHeap x, int s, int k, int want) {
        due.yes("get(7, " + s + ", " + k + ")", x.get(7, s, k));
        due.is("its number", x.look(7, 1), want);
    }

    private static void cells(Due due) {
        int[] kinds = {0, 1, 1, 1, 2, 3, 4};
        int[] lengths = {0, 0, 1, 100, 0, 0, 0};
        int[] cells = {4, 3, 4, 103, 3, 4, 3};
        for (int i = 0; i < kinds.length; i++) {
            VisibleHeap x = new VisibleHeap(200);
            due.is("make kind " + kinds[i], x.make(0, kinds[i], 1, 1, lengths[i]), 1);
            due.is("look(0, 0)", x.look(0, 0), kinds[i]);
            due.is("cells of kind " + kinds[i] + " of " + lengths[i], x.count(0), cells[i]);
            due.is("objects", x.count(1), 1);
        }
    }

    private static void refusals(Due due) {
        boolean[] needsS = {true, true, true, true, false};
        boolean[] needsT = {true, false, false, true, false};
        for (int bad : NO_REGISTER) {
            for (int kind = 0; kind < 5; kind++) {
                String told = bad + " for kind " + kind;
                due.is("r " + told, new VisibleHeap(20).make(bad, kind, 0, 0, 1), -1);
                due.is("s " + told, new VisibleHeap(20).make(0, kind, bad, 0, 1), needsS[kind] ? -1 : 1);
                due.is("t " + told, new VisibleHeap(20).make(0, kind, 0, bad, 1), needsT[kind] ? -1 : 1);
            }
        }
        VisibleHeap x = new VisibleHeap(20);
        x.number(0, 5);
        for (int kind : new int[] {-1, 5, 6, Integer.MIN_VALUE, Integer.MAX_VALUE}) {
            due.is("kind " + kind, x.make(0, kind, 0, 0, 0), -1);
        }
        for (int n : new int[] {-1, 101, Integer.MIN_VALUE, Integer.MAX_VALUE}) {
            due.is("vector of " + n, x.make(0, 1, 0, 0, n), -1);
        }
        due.is("a refused make changes nothing", x.look(0, 1), 5);
        due.is("and makes nothing", x.count(1), 0);
        due.is("and collects nothing", x.count(2), 0);
    }

    private static void room(Due due) {
        VisibleHeap x = new VisibleHeap(20);
        due.is("all cells in one", x.make(0, 1, 0, 0, 17), 1);
        due.is("no collection while there is room", x.count(2), 0);
        due.is("what r holds is not given up for the new", x.make(0, 2, 7, 0, 0), 0);
        due.is("it has collected", x.count(2), 1);
        due.is("r still holds it", x.look(0, 2), 17);
        x.copy(0, -1);
        due.is("room after a collection", x.make(1, 1, 0, 0, 17), 1);
        due.is("collections", x.count(2), 2);
        due.is("cells", x.count(0), 20);
        due.is("more than all cells", x.make(2, 1, 0, 0, 18), 0);
        due.is("collects, too", x.count(2), 3);
        due.is("r unchanged", x.look(2, 0), 6);
        due.is("refused before it is collected", x.make(2, 1, 0, 0, 101), -1);
        due.is("so no collection", x.count(2), 3);
    }
}
