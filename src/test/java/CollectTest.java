/** Promise 11, and what the document says of COLLECTING. */
public final class CollectTest {
    public static void main(String[] args) {
        Due due = new Due("promise 11, collect");
        reachability(due);
        rings(due);
        longChain(due);
        weakOnes(due);
        ephemerons(due);
        ephemeronChain(due);
        ephemeronThatHoldsItsKey(due);
        tables(due);
        tableOfDeadKeysIsItselfDead(due);
        registeredValues(due);
        clearedBeforeTheQueue(due);
        deadHoldersLetGo(due);
        queueHolds(due);
        due.end();
    }

    private static void forget(VisibleHeap x, int from, int to) {
        for (int r = from; r <= to; r++) {
            x.copy(r, -1);
        }
    }

    private static void reachability(Due due) {
        VisibleHeap x = new VisibleHeap(100);
        due.is("collect of nothing", x.collect(), 0);
        due.is("it counts", x.count(2), 1);
        x.make(0, 2, 7, 7, 0);
        x.make(1, 0, 0, 7, 0);
        x.make(2, 1, 1, 7, 4);
        forget(x, 0, 1);
        due.is("held by vector and pair", x.collect(), 0);
        x.set(2, 0, 7);
        x.set(2, 1, 7);
        x.set(2, 2, 7);
        due.is("held by the last value alone", x.collect(), 0);
        x.set(2, 3, 7);
        due.is("held no more", x.collect(), 7);
        due.is("cells", x.count(0), 7);
        due.is("objects", x.count(1), 1);
        x.number(2, 3);
        due.is("the vector, too", x.collect(), 7);
        due.is("nothing is left", x.count(0), 0);
        due.is("collections", x.count(2), 5);
    }

    private static void rings(Due due) {
        VisibleHeap x = new VisibleHeap(100);
        x.make(0, 0, 7, 7, 0);
        x.make(1, 0, 0, 0, 0);
        x.set(0, 0, 1);
        forget(x, 0, 0);
        due.is("a ring that is held", x.collect(), 0);
        forget(x, 1, 1);
        due.is("a ring that is not", x.collect(), 8);
    }

    private static void longChain(Due due) {
        VisibleHeap x = new VisibleHeap(5000);
        for (int i = 0; i < 500; i++) {
            x.make(0, 0, 0, 7, 0);
        }
        due.is("a long chain is held", x.collect(), 0);
        due.is("objects", x.count(1), 500);
        forget(x, 0, 0);
        due.is("and let go", x.collect(), 2000);
    }

    private static void weakOnes(Due due) {
        VisibleHeap x = new VisibleHeap(100);
        x.number(0, 9);
        x.make(1, 2, 0, 7, 0);
        x.make(0, 0, 7, 7, 0);
        x.make(2, 2, 0, 7, 0);
        x.make(3, 2, 2, 7, 0);
        due.is("all are held", x.collect(), 0);
        x.get(4, 2, 0);
        due.is("not cleared", x.same(4, 0), 1);
        forget(x, 0, 0);
        forget(x, 4, 4);
        due.is("a weak one does not hold", x.collect(), 4);
        x.get(4, 2, 0);
        due.is("cleared", x.look(4, 0), 6);
        due.is("it has a value still", x.look(2, 2), 1);
        x.get(4, 1, 0);
        due.is("a number is not cleared", x.look(4, 1), 9);
        x.get(4, 3, 0);
        due.is("a weak one of a weak one", x.same(4, 2), 1);
    }

    private static void ephemerons(Due due) {
        VisibleHeap x = new VisibleHeap(100);
        x.make(0, 0, 7, 7, 0);
        x.make(1, 2, 7, 7, 0);
        x.make(2, 3, 0, 1, 0);
        forget(x, 1, 1);
        due.is("the value is held while its key lives", x.collect(), 0);
        x.get(1, 2, 1);
        due.is("it is there", x.look(1, 0), 2);
        forget(x, 0, 1);
        due.is("key and value go", x.collect(), 7);
        x.get(3, 2, 0);
        due.is("the key is nothing", x.look(3, 0), 6);
        x.get(3, 2, 1);
        due.is("the value is nothing", x.look(3, 0), 6);
        due.is("it has two values still", x.look(2, 2), 2);
        due.is("it is there", x.count(0), 4);
        x.make(1, 0, 7, 7, 0);
        x.number(0, 4);
        x.make(2, 3, 0, 1, 0);
        x.make(3, 3, 7, 1, 0);
        forget(x, 1, 1);
        due.is("only the broken one goes", x.collect(), 4);
        x.copy(2, -1);
        due.is("nothing as a key lives", x.collect(), 4);
        x.get(1, 3, 1);
        due.is("its value", x.look(1, 0), 0);
        x.make(1, 0, 7, 7, 0);
        x.number(0, 4);
        x.make(3, 3, 0, 1, 0);
        forget(x, 1, 1);
        x.collect();
        x.get(1, 3, 1);
        due.is("a number as a key lives", x.look(1, 0), 0);
        x.number(1, 5);
        x.make(4, 0, 7, 7, 0);
        x.make(3, 3, 4, 1, 0);
        forget(x, 4, 4);
        x.collect();
        x.get(1, 3, 1);
        due.is("a number as value goes when the key does", x.look(1, 0), 6);
    }

    /** Each value is the next one's key, and the ephemerons stand in both orders. */
    private static void ephemeronChain(Due due) {
        for (int way = 0; way < 2; way++) {
            VisibleHeap x = new VisibleHeap(5000);
            x.make(0, 1, 7, 7, 100);
            x.make(1, 1, 7, 7, 100);
            for (int k = 0; k < 100; k++) {
                x.make(2, 2, 7, 7, 0);
                x.set(0, k, 2);
            }
            for (int k = 0; k < 99; k++) {
                int at = way == 0 ? k : 98 - k;
                x.get(2, 0, at);
                x.get(3, 0, at + 1);
                x.make(4, 3, 2, 3, 0);
                x.set(1, at, 4);
            }
            x.get(5, 0, 0);
            forget(x, 2, 4);
            forget(x, 0, 0);
            due.is("the first key holds the chain, way " + way, x.collect(), 103);
            due.is("objects", x.count(1), 1 + 99 + 100);
            x.get(2, 1, 50);
            x.get(5, 2, 1);
            forget(x, 2, 2);
            due.is("the middle one holds half of it", x.collect(), 51 * 3);
            forget(x, 5, 5);
            due.is("none holds the rest", x.collect(), 49 * 3);
        }
    }

    private static void ephemeronThatHoldsItsKey(Due due) {
        VisibleHeap x = new VisibleHeap(100);
        x.make(0, 0, 7, 7, 0);
        x.make(1, 0, 0, 0, 0);
        x.make(2, 3, 0, 1, 0);
        forget(x, 0, 1);
        due.is("a value that holds its key is not held", x.collect(), 8);
        x.make(0, 0, 7, 7, 0);
        x.make(3, 0, 7, 7, 0);
        x.make(1, 3, 0, 3, 0);
        x.make(2, 3, 3, 0, 0);
        forget(x, 0, 0);
        forget(x, 3, 3);
        due.is("two that hold each other's key", x.collect(), 8 + 4);
    }

    private static void tables(Due due) {
        VisibleHeap x = new VisibleHeap(200);
        x.make(0, 4, 7, 7, 0);
        x.make(1, 0, 7, 7, 0);
        x.make(2, 2, 7, 7, 0);
        x.put(0, 1, 2);
        x.put(0, 2, 1);
        x.number(3, 8);
        x.make(4, 1, 7, 7, 2);
        x.put(0, 3, 4);
        x.put(0, 7, 4);
        x.put(0, 4, 0);
        forget(x, 4, 4);
        forget(x, 2, 2);
        due.is("values of live keys are held, and are keys", x.collect(), 0);
        due.is("entries", x.look(0, 2), 5);
        due.is("objects", x.count(1), 9);
        forget(x, 1, 1);
        due.is("two keys that hold each other alone", x.collect(), 4 + 3 + 10);
        due.is("entries", x.look(0, 2), 3);
        due.is("objects", x.count(1), 5);
        x.number(5, 1);
        x.put(0, 3, 5);
        x.put(0, 7, 5);
        due.is("the vector as a key alone", x.collect(), 5 + 5);
        due.is("entries", x.look(0, 2), 2);
        due.is("number and nothing are found", x.find(6, 0, 3) + x.find(6, 0, 7), 2);
        due.is("cells", x.count(0), 13);
        forget(x, 0, 0);
        due.is("the table with its entries", x.collect(), 13);
        due.is("no objects", x.count(1), 0);
    }

    private static void tableOfDeadKeysIsItselfDead(Due due) {
        VisibleHeap x = new VisibleHeap(200);
        x.make(0, 4, 7, 7, 0);
        x.make(1, 0, 7, 7, 0);
        x.make(2, 2, 7, 7, 0);
        x.put(0, 1, 2);
        forget(x, 0, 0);
        forget(x, 2, 2);
        due.is("a dead table holds no value of a live key", x.collect(), 3 + 5 + 3);
        due.is("cells", x.count(0), 4);
    }

    private static void registeredValues(Due due) {
        VisibleHeap x = new VisibleHeap(200);
        x.make(0, 0, 7, 7, 0);
        x.make(1, 2, 7, 7, 0);
        x.register(0, 1);
        x.make(2, 2, 1, 7, 0);
        forget(x, 1, 1);
        due.is("what was registered for a live object is held", x.collect(), 0);
        x.get(3, 2, 0);
        due.is("its weak one is not cleared", x.look(3, 0), 2);
        forget(x, 3, 3);
        forget(x, 0, 0);
        due.is("then it stands in the queue", x.collect(), 0);
        x.get(3, 2, 0);
        due.is("but it was not live before", x.look(3, 0), 6);
        x.next(4, 5);
        due.is("the object", x.look(4, 0), 0);
        due.is("what it was registered with", x.look(5, 0), 2);
        forget(x, 4, 5);
        due.is("both go", x.collect(), 7);
        registeredChain(due);
    }

    /** A registration's value may itself be registered, and live by that alone. */
    private static void registeredChain(Due due) {
        VisibleHeap x = new VisibleHeap(200);
        x.make(0, 0, 7, 7, 0);
        x.make(1, 0, 7, 7, 0);
        x.make(2, 0, 7, 7, 0);
        x.register(1, 2);
        x.register(0, 1);
        forget(x, 1, 2);
        due.is("a chain of registrations", x.collect(), 0);
        due.is("none in the queue", x.count(3), 0);
        forget(x, 0, 0);
        due.is("all are told of at once", x.collect(), 0);
        due.is("queue", x.count(3), 2);
        due.is("registrations", x.count(4), 0);
        x.next(3, 4);
        x.next(5, 6);
        due.is("as they were registered", x.same(3, 6), 1);
    }

    private static void clearedBeforeTheQueue(Due due) {
        VisibleHeap x = new VisibleHeap(200);
        x.make(0, 0, 7, 7, 0);
        x.make(1, 2, 0, 7, 0);
        x.number(6, 6);
        x.make(2, 3, 0, 6, 0);
        x.make(3, 4, 7, 7, 0);
        x.put(3, 0, 6);
        x.register(0, 6);
        forget(x, 0, 0);
        due.is("the entry alone goes", x.collect(), 5);
        x.get(4, 1, 0);
        due.is("the weak one is cleared", x.look(4, 0), 6);
        x.get(4, 2, 0);
        due.is("the ephemeron is broken", x.look(4, 0), 6);
        due.is("the table is empty", x.look(3, 2), 0);
        due.yes("the object is there still", x.next(0, 5));
        x.make(1, 2, 0, 7, 0);
        x.collect();
        x.get(4, 1, 0);
        due.is("a new weak one stays", x.same(4, 0), 1);
    }

    /** What the queue brings back was dead at the reckoning: it has let go of what was dead, and kept what was not. */
    private static void deadHoldersLetGo(Due due) {
        VisibleHeap x = new VisibleHeap(200);
        x.make(0, 0, 7, 7, 0);
        x.make(6, 0, 7, 7, 0);
        int[] kinds = {2, 3, 4};
        for (int kind : kinds) {
            x.make(kind, kind, 0, 0, 0);
            x.register(kind, 7);
            x.make(1, kind, 6, 6, 0);
            if (kind == 4) {
                x.put(kind, 0, 0);
                x.put(kind, 6, 6);
                x.put(1, 6, 0);
            }
            x.register(1, 7);
        }
        x.register(0, 7);
        forget(x, 0, 4);
        due.is("only the entry of the dead key goes", x.collect(), 5);
        due.is("queue", x.count(3), 7);
        x.next(1, 7);
        x.get(2, 1, 0);
        due.is("a dead weak one is cleared", x.look(2, 0), 6);
        x.next(1, 7);
        x.get(2, 1, 0);
        due.is("but not that of a live one", x.same(2, 6), 1);
        x.next(1, 7);
        x.get(2, 1, 1);
        due.is("a dead ephemeron is broken", x.look(2, 0), 6);
        x.next(1, 7);
        x.get(2, 1, 1);
        due.is("but not that of a live key", x.same(2, 6), 1);
        x.next(1, 7);
        due.is("a dead table has lost the entry", x.look(1, 2), 1);
        due.is("but not that of a live key", x.find(2, 1, 6), 1);
        x.next(1, 7);
        due.is("the value is back with its table", x.find(2, 1, 6), 1);
        x.next(3, 7);
        due.is("it is the one that is told of", x.same(2, 3), 1);
    }

    private static void queueHolds(Due due) {
        VisibleHeap x = new VisibleHeap(200);
        x.make(0, 2, 7, 7, 0);
        x.make(1, 0, 0, 7, 0);
        x.make(2, 0, 7, 7, 0);
        x.make(3, 3, 2, 1, 0);
        x.register(1, 2);
        x.register(0, 7);
        forget(x, 0, 2);
        x.collect();
        due.is("queue", x.count(3), 2);
        for (int i = 0; i < 3; i++) {
            due.is("what stands in the queue is held", x.collect(), 0);
        }
        x.next(4, 5);
        x.make(6, 2, 5, 7, 0);
        forget(x, 4, 5);
        due.is("the pair and what it was registered with go, what is told of next stays", x.collect(), 8);
        due.is("queue", x.count(3), 1);
        x.get(5, 6, 0);
        due.is("cleared", x.look(5, 0), 6);
        due.yes("next", x.next(4, 5));
        due.is("the weak one", x.look(4, 0), 2);
    }
}
