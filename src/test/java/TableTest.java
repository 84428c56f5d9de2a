/** Promises 7 and 8. */
public final class TableTest {
    private static final int[] NO_REGISTER = {-1, 8, Integer.MIN_VALUE, Integer.MAX_VALUE};

    public static void main(String[] args) {
        Due due = new Due("promises 7, 8, put, find");
        keys(due);
        room(due);
        roomMadeByDeadKeys(due);
        refusals(due);
        due.end();
    }

    private static void keys(Due due) {
        VisibleHeap x = new VisibleHeap(200);
        x.make(0, 4, 0, 0, 0);
        x.number(2, 22);
        x.number(3, 33);
        due.is("find of nothing in the empty", x.find(7, 0, 1), 0);
        due.is("put of the key nothing", x.put(0, 1, 2), 2);
        due.is("find of the key nothing", x.find(7, 0, 1), 1);
        due.is("its value", x.look(7, 1), 22);
        due.is("a number as key", x.put(0, 2, 3), 2);
        x.number(4, 22);
        due.is("a like number finds it", x.find(7, 0, 4), 1);
        due.is("its value", x.look(7, 1), 33);
        due.is("a like number replaces it", x.put(0, 4, 4), 1);
        x.find(7, 0, 2);
        due.is("the value anew", x.look(7, 1), 22);
        x.make(5, 0, 2, 2, 0);
        x.make(6, 0, 2, 2, 0);
        due.is("an object as key", x.put(0, 5, 5), 2);
        due.is("another object is another key", x.find(7, 0, 6), 0);
        due.is("find of none changes nothing", x.look(7, 1), 22);
        due.is("put of the other", x.put(0, 6, 3), 2);
        due.is("find of the object", x.find(7, 0, 5), 1);
        due.is("its value is itself", x.same(7, 5), 1);
        due.is("the table as key of itself", x.put(0, 0, 0), 2);
        due.is("entries", x.look(0, 2), 5);
        due.is("cells", x.count(0), 3 + 4 + 4 + 5 * 5);
        due.is("objects", x.count(1), 8);
        due.is("find into the table's register", x.find(0, 0, 1), 1);
        due.is("the value is there now", x.look(0, 1), 22);
    }

    private static void room(Due due) {
        VisibleHeap x = new VisibleHeap(20);
        x.make(0, 4, 0, 0, 0);
        for (int i = 0; i < 3; i++) {
            x.number(1, i);
            due.is("put " + i, x.put(0, 1, 1), 2);
        }
        due.is("cells", x.count(0), 18);
        x.number(2, 9);
        due.is("no room", x.put(0, 2, 1), 0);
        due.is("it has collected", x.count(2), 1);
        due.is("no entry was made", x.look(0, 2), 3);
        due.is("find of it", x.find(7, 0, 2), 0);
        due.is("a key that is there needs no room", x.put(0, 1, 2), 1);
        due.is("and no collection", x.count(2), 1);
        x.find(7, 0, 1);
        due.is("the value anew", x.look(7, 1), 9);
    }

    private static void roomMadeByDeadKeys(Due due) {
        VisibleHeap x = new VisibleHeap(20);
        x.make(0, 4, 0, 0, 0);
        x.make(1, 2, 7, 7, 0);
        due.is("put", x.put(0, 1, 0), 2);
        x.make(1, 2, 7, 7, 0);
        due.is("cells", x.count(0), 14);
        due.is("put of a second", x.put(0, 1, 0), 2);
        due.is("cells", x.count(0), 19);
        x.make(2, 2, 7, 7, 0);
        due.is("the collection for a weak one took the dead key", x.count(0), 3 + 5 + 3 + 3);
        due.is("put where the key's room is", x.put(0, 2, 2), 2);
        due.is("cells", x.count(0), 19);
        x.copy(1, -1);
        x.number(1, 4);
        due.is("put that collects for itself", x.put(0, 1, 2), 2);
        due.is("cells", x.count(0), 3 + 3 + 5 + 5);
        due.is("entries", x.look(0, 2), 2);
        due.is("collections", x.count(2), 2);
    }

    private static void refusals(Due due) {
        VisibleHeap x = new VisibleHeap(20);
        x.number(6, 66);
        for (int kind = 0; kind < 4; kind++) {
            x = new VisibleHeap(20);
            x.make(0, kind, 6, 6, 1);
            due.is("put in kind " + kind, x.put(0, 6, 6), -1);
            due.is("find in kind " + kind, x.find(7, 0, 6), -1);
        }
        x = new VisibleHeap(20);
        x.number(5, 5);
        due.is("put in a number", x.put(5, 5, 5), -1);
        due.is("put in nothing", x.put(4, 5, 5), -1);
        due.is("find in a number", x.find(5, 5, 5), -1);
        due.is("find in nothing", x.find(5, 4, 5), -1);
        x.make(0, 4, 0, 0, 0);
        x.put(0, 7, 7);
        for (int bad : NO_REGISTER) {
            due.is("put(" + bad + ", 5, 5)", x.put(bad, 5, 5), -1);
            due.is("put(0, " + bad + ", 5)", x.put(0, bad, 5), -1);
            due.is("put(0, 5, " + bad + ")", x.put(0, 5, bad), -1);
            due.is("find(" + bad + ", 0, 7)", x.find(bad, 0, 7), -1);
            due.is("find(5, " + bad + ", 7)", x.find(5, bad, 7), -1);
            due.is("find(5, 0, " + bad + ")", x.find(5, 0, bad), -1);
        }
        due.is("nothing was put", x.look(0, 2), 1);
        due.is("nothing was found", x.look(5, 1), 5);
        due.is("nothing was collected", x.count(2), 0);
    }
}
