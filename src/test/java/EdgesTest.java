/**
 * Each sentence of the document that names a boundary case has a method of its own here, in the document's order,
 * with its words above it. What a refused call leaves as it was is RefusalsTest's.
 */
public final class EdgesTest {
    private static final int PAIR = 0;
    private static final int VECTOR = 1;
    private static final int WEAK = 2;
    private static final int EPHEMERON = 3;
    private static final int TABLE = 4;
    private static final int NUMBER = 5;
    private static final int NOTHING = 6;
    private static final int LEAST = Integer.MIN_VALUE;
    private static final int MOST = Integer.MAX_VALUE;

    private final Due due = new Due("edges of promises 1 to 14");

    public static void main(String[] args) {
        EdgesTest test = new EdgesTest();
        test.terms();
        test.room();
        test.collecting();
        test.registersAndMake();
        test.values();
        test.tables();
        test.registrations();
        test.watching();
        test.due.end();
    }

    private void terms() {
        registersAtFirst();
        vectorCells();
        tableCells();
        eachKeyOnce();
        identityInOrder();
        lastCall();
    }

    private void room() {
        makeFitsExactly();
        makeOneCellTooFew();
        makeCollectsForItself();
        makeMoreThanAll();
        putFitsExactly();
        putOneCellTooFew();
        putCollectsForItself();
        putHoldsItsRegisters();
    }

    private void collecting() {
        numbersAndNothingLive();
        weakDoesNotHold();
        ephemeronDoesNotHoldItsKey();
        valueOfDeadKeyIsNotHeld();
        tableDoesNotHoldKeys();
        tableHoldsValuesOfLiveKeysAlone();
        valueThatIsItsOwnKey();
        registrationDoesNotHoldItsObject();
        deadRegistrationHoldsNothing();
        clearedThoughTheQueueBringsBack();
        behindWhatIsThere();
        queueHoldsWhatItsObjectsHold();
        entriesOfATableInTheQueue();
        nothingToCollect();
        allIsGone();
    }

    private void registersAndMake() {
        cellsAtTheEdges();
        numberAtTheEdges();
        copyOfMinusOne();
        vectorAtTheEdges();
        lengthIsForVectorsAlone();
        registersAsFarAsNeeded();
        makeIntoItsOwnSource();
    }

    private void values() {
        getAtTheEdges();
        getOfBroken();
        getOverItself();
        setAtTheEdges();
        setOfOtherObjects();
    }

    private void tables() {
        putAnswers();
        putWithKeyInAFullHeap();
        findInAnEmptyTable();
        findAfterTheKeyDied();
        keysThatAreTheSame();
        putTableIntoItself();
    }

    private void registrations() {
        sixtyRegistrations();
        sixtyInTheQueue();
        sixtyInBoth();
        collectingKeepsTheSum();
        registerTwice();
        nextOfAnEmptyQueue();
        nextIntoOneRegister();
        nextToTheLast();
    }

    private void watching() {
        lookAtNumberMinusOne();
        lookAtNothing();
        lookAtOtherWhats();
        sameAtTheEdges();
        countOfEntries();
        countOfRefusedMakes();
        countAtTheEdges();
    }

    private void holds(VisibleHeap x, int r, int kind, int number) {
        due.is("look(" + r + ", 0)", x.look(r, 0), kind);
        if (kind == NUMBER) {
            due.is("look(" + r + ", 1)", x.look(r, 1), number);
        }
    }

    private void value(VisibleHeap x, int s, int k, int kind) {
        due.yes("get(7, " + s + ", " + k + ")", x.get(7, s, k));
        due.is("its kind", x.look(7, 0), kind);
        x.copy(7, -1);
    }

    // "REGISTERS 0 .. 7 hold a value each, at first NOTHING."
    private void registersAtFirst() {
        VisibleHeap x = new VisibleHeap(20);
        for (int r = 0; r < 8; r++) {
            holds(x, r, NOTHING, 0);
        }
        due.yes("register 0 is one", x.number(0, 1));
        due.yes("register 7 is one", x.number(7, 2));
        due.no("register -1 is none", x.number(-1, 3));
        due.no("register 8 is none", x.number(8, 4));
        holds(x, 0, NUMBER, 1);
        holds(x, 7, NUMBER, 2);
        for (int r = 1; r < 7; r++) {
            holds(x, r, NOTHING, 0);
        }
    }

    // "VECTOR of n values (0 .. 100) 3 + n"
    private void vectorCells() {
        for (int n = 0; n <= 100; n++) {
            VisibleHeap x = new VisibleHeap(200);
            due.is("vector of " + n, x.make(0, VECTOR, 1, 1, n), 1);
            due.is("its cells", x.count(0), 3 + n);
            due.is("its values", x.look(0, 2), n);
        }
    }

    // "TABLE 3, and 5 for each of its ENTRIES"
    private void tableCells() {
        VisibleHeap x = new VisibleHeap(500);
        x.make(0, TABLE, 0, 0, 0);
        for (int i = 0; i < 50; i++) {
            due.is("cells of " + i + " entries", x.count(0), 3 + 5 * i);
            x.number(1, i);
            due.is("put " + i, x.put(0, 1, 1), 2);
        }
        due.is("cells of 50 entries", x.count(0), 253);
    }

    // "each key once"
    private void eachKeyOnce() {
        VisibleHeap x = new VisibleHeap(100);
        x.make(0, TABLE, 0, 0, 0);
        x.make(1, PAIR, 7, 7, 0);
        for (int i = 0; i < 3; i++) {
            x.number(2, 5);
            x.put(0, 1, 2);
            x.put(0, 2, 2);
            x.put(0, 7, 2);
        }
        due.is("entries", x.look(0, 2), 3);
        due.is("cells", x.count(0), 4 + 3 + 15);
    }

    // "Objects bear a NUMBER OF IDENTITY, 1, 2, .. in the order in which they were first asked for it, and keep it."
    private void identityInOrder() {
        VisibleHeap x = new VisibleHeap(20);
        x.make(0, WEAK, 7, 7, 0);
        x.make(1, WEAK, 7, 7, 0);
        x.make(2, WEAK, 7, 7, 0);
        due.is("the last made is asked first", x.look(2, 1), 1);
        due.is("then the first", x.look(0, 1), 2);
        due.is("it keeps it", x.look(2, 1), 1);
        x.copy(2, -1);
        x.collect();
        due.is("a number is not given again", x.look(1, 1), 3);
        due.is("given", x.count(5), 3);
    }

    // "An object is used for at most 512 calls after it has been made"
    private void lastCall() {
        VisibleHeap x = new VisibleHeap(5000);
        for (int i = 0; i < 510; i++) {
            due.is("make " + i, x.make(0, PAIR, 0, 0, 0), 1);
        }
        due.is("call 511", x.collect(), 0);
        due.is("call 512", x.count(1), 510);
    }

    // "What would need more than the others is COLLECTED for first": what needs just those is not.
    private void makeFitsExactly() {
        int[] lengths = {0, 16, 0, 0, 0};
        int[] cells = {4, 19, 3, 4, 3};
        for (int kind = 0; kind < 5; kind++) {
            VisibleHeap x = new VisibleHeap(40);
            x.make(0, VECTOR, 7, 7, 40 - cells[kind] - 3);
            x.copy(0, -1);
            due.is("make of kind " + kind + " into the last cells", x.make(1, kind, 7, 7, lengths[kind]), 1);
            due.is("cells", x.count(0), 40);
            due.is("no collection", x.count(2), 0);
        }
    }

    // "and refused, if they are too few still", by one cell.
    private void makeOneCellTooFew() {
        int[] lengths = {0, 16, 0, 0, 0};
        int[] cells = {4, 19, 3, 4, 3};
        for (int kind = 0; kind < 5; kind++) {
            VisibleHeap x = new VisibleHeap(40);
            x.make(0, VECTOR, 7, 7, 40 - cells[kind] - 2);
            due.is("make of kind " + kind + " with a cell too few", x.make(1, kind, 7, 7, lengths[kind]), 0);
            due.is("it has collected", x.count(2), 1);
            due.is("cells", x.count(0), 41 - cells[kind]);
            due.is("objects", x.count(1), 1);
            holds(x, 1, NOTHING, 0);
        }
    }

    // "COLLECTED for first", once, and then there is room, to the cell.
    private void makeCollectsForItself() {
        VisibleHeap x = new VisibleHeap(20);
        x.make(0, VECTOR, 7, 7, 10);
        x.make(1, PAIR, 7, 7, 0);
        x.copy(1, -1);
        due.is("a vector of 5 after a collection", x.make(2, VECTOR, 7, 7, 4), 1);
        due.is("cells", x.count(0), 20);
        due.is("one collection", x.count(2), 1);
        x.copy(0, -1);
        due.is("r holds its old value while it is collected", x.make(2, VECTOR, 7, 7, 11), 0);
        due.is("cells", x.count(0), 7);
        due.is("a cell less", x.make(2, VECTOR, 7, 7, 10), 1);
        due.is("cells", x.count(0), 20);
    }

    private void makeMoreThanAll() {
        VisibleHeap x = new VisibleHeap(20);
        due.is("a vector of 18 in 20 cells", x.make(0, VECTOR, 7, 7, 18), 0);
        due.is("a vector of 100 in 20 cells", x.make(0, VECTOR, 7, 7, 100), 0);
        due.is("both have collected", x.count(2), 2);
        due.is("a vector of 17 in 20 cells", x.make(0, VECTOR, 7, 7, 17), 1);
    }

    private void putFitsExactly() {
        VisibleHeap x = new VisibleHeap(23);
        x.make(0, TABLE, 7, 7, 0);
        for (int i = 0; i < 4; i++) {
            x.number(1, i);
            due.is("put " + i, x.put(0, 1, 1), 2);
        }
        due.is("cells", x.count(0), 23);
        due.is("no collection", x.count(2), 0);
    }

    private void putOneCellTooFew() {
        VisibleHeap x = new VisibleHeap(22);
        x.make(0, TABLE, 7, 7, 0);
        for (int i = 0; i < 3; i++) {
            x.number(1, i);
            x.put(0, 1, 1);
        }
        x.number(1, 3);
        due.is("put with 4 cells free", x.put(0, 1, 1), 0);
        due.is("it has collected", x.count(2), 1);
        due.is("cells", x.count(0), 18);
        due.is("entries", x.look(0, 2), 3);
    }

    private void putCollectsForItself() {
        VisibleHeap x = new VisibleHeap(20);
        x.make(0, TABLE, 7, 7, 0);
        x.make(1, VECTOR, 7, 7, 11);
        x.copy(1, -1);
        due.is("put where a vector was", x.put(0, 1, 2), 2);
        due.is("cells", x.count(0), 8);
        due.is("one collection", x.count(2), 1);
    }

    // "s, t and u hold"
    private void putHoldsItsRegisters() {
        VisibleHeap x = new VisibleHeap(22);
        x.make(0, TABLE, 7, 7, 0);
        x.make(3, VECTOR, 7, 7, 5);
        x.make(1, PAIR, 7, 7, 0);
        x.make(2, PAIR, 7, 7, 0);
        x.copy(3, -1);
        due.is("put after a collection", x.put(0, 1, 2), 2);
        due.is("cells", x.count(0), 3 + 5 + 4 + 4);
        due.is("find", x.find(4, 0, 1), 1);
        due.is("its value", x.same(4, 2), 1);
    }

    // "LIVE are (no more than these): numbers and NOTHING"
    private void numbersAndNothingLive() {
        VisibleHeap x = new VisibleHeap(100);
        x.number(1, 9);
        x.make(0, WEAK, 1, 7, 0);
        x.make(2, EPHEMERON, 1, 1, 0);
        x.make(3, EPHEMERON, 7, 1, 0);
        x.make(4, TABLE, 7, 7, 0);
        x.put(4, 1, 1);
        x.put(4, 7, 1);
        x.copy(1, -1);
        due.is("nothing goes", x.collect(), 0);
        value(x, 0, 0, NUMBER);
        value(x, 2, 0, NUMBER);
        value(x, 2, 1, NUMBER);
        value(x, 3, 0, NOTHING);
        value(x, 3, 1, NUMBER);
        due.is("entries", x.look(4, 2), 2);
    }

    // "a weak reference whose value is not live is CLEARED (its value is NOTHING)"
    private void weakDoesNotHold() {
        VisibleHeap x = new VisibleHeap(20);
        x.make(0, PAIR, 7, 7, 0);
        x.make(1, WEAK, 0, 7, 0);
        x.collect();
        value(x, 1, 0, PAIR);
        x.copy(0, -1);
        due.is("the pair goes", x.collect(), 4);
        value(x, 1, 0, NOTHING);
        due.is("one of itself", x.make(1, WEAK, 1, 7, 0), 1);
        due.is("the first one goes", x.collect(), 3);
    }

    // "an ephemeron whose key is not is BROKEN (key and value are NOTHING)", though its value lives.
    private void ephemeronDoesNotHoldItsKey() {
        VisibleHeap x = new VisibleHeap(50);
        x.make(0, PAIR, 7, 7, 0);
        x.make(1, WEAK, 7, 7, 0);
        x.make(2, EPHEMERON, 0, 1, 0);
        x.copy(0, -1);
        due.is("the key goes", x.collect(), 4);
        value(x, 2, 0, NOTHING);
        value(x, 2, 1, NOTHING);
        holds(x, 1, WEAK, 0);
        due.is("values of the broken", x.look(2, 2), 2);
    }

    // "the value of a live ephemeron whose key is live": neither of a dead one, nor of a dead key.
    private void valueOfDeadKeyIsNotHeld() {
        VisibleHeap x = new VisibleHeap(50);
        x.make(0, PAIR, 7, 7, 0);
        x.make(1, VECTOR, 7, 7, 5);
        x.make(2, EPHEMERON, 0, 1, 0);
        x.copy(1, -1);
        due.is("both live", x.collect(), 0);
        x.copy(2, -1);
        due.is("a dead one holds no value", x.collect(), 4 + 8);
        x.make(1, VECTOR, 7, 7, 5);
        x.make(2, EPHEMERON, 1, 0, 0);
        x.copy(0, -1);
        x.copy(1, -1);
        due.is("a dead key holds no value", x.collect(), 8 + 4);
        x.make(2, EPHEMERON, 2, 2, 0);
        x.make(1, WEAK, 7, 7, 0);
        due.is("the broken one goes with its register", x.collect(), 4);
    }

    // "an entry whose key is not is gone from its table"
    private void tableDoesNotHoldKeys() {
        VisibleHeap x = new VisibleHeap(50);
        x.make(0, TABLE, 7, 7, 0);
        x.make(1, PAIR, 7, 7, 0);
        x.make(2, WEAK, 7, 7, 0);
        x.put(0, 1, 2);
        x.put(0, 2, 0);
        x.copy(1, -1);
        due.is("the key and its entry go", x.collect(), 4 + 5);
        due.is("one entry stays", x.look(0, 2), 1);
        due.is("the other's", x.find(3, 0, 2), 1);
        x.copy(2, -1);
        x.copy(3, -1);
        due.is("the last one goes", x.collect(), 3 + 5);
        due.is("an empty table", x.look(0, 2), 0);
        due.is("cells", x.count(0), 3);
        due.is("it takes entries still", x.put(0, 7, 7), 2);
    }

    // "the entries of a live table whose key is live, and their values"
    private void tableHoldsValuesOfLiveKeysAlone() {
        VisibleHeap x = new VisibleHeap(100);
        x.make(0, TABLE, 7, 7, 0);
        for (int key = 1; key <= 3; key++) {
            x.make(key, PAIR, 7, 7, 0);
            x.make(4, VECTOR, 7, 7, key);
            x.put(0, key, 4);
        }
        x.copy(4, -1);
        due.is("each value is held", x.collect(), 0);
        x.copy(2, -1);
        due.is("key, entry and value of the second go", x.collect(), 4 + 5 + 5);
        x.copy(3, -1);
        due.is("those of the third", x.collect(), 4 + 5 + 6);
        x.copy(0, -1);
        due.is("a dead table holds no value, though its key lives", x.collect(), 3 + 5 + 4);
    }

    // A value cannot hold the key that it is held by.
    private void valueThatIsItsOwnKey() {
        VisibleHeap x = new VisibleHeap(100);
        x.make(0, TABLE, 7, 7, 0);
        x.make(1, PAIR, 7, 7, 0);
        x.make(2, EPHEMERON, 1, 1, 0);
        x.make(3, WEAK, 1, 1, 0);
        x.put(0, 1, 1);
        x.register(1, 1);
        x.copy(1, -1);
        due.is("the entry goes, the queue holds the pair", x.collect(), 5);
        due.is("entries", x.look(0, 2), 0);
        value(x, 2, 0, NOTHING);
        value(x, 2, 1, NOTHING);
        value(x, 3, 0, NOTHING);
        due.is("queue", x.count(3), 1);
    }

    // "each REGISTRATION whose object is not live leaves the others and goes to the queue"
    private void registrationDoesNotHoldItsObject() {
        VisibleHeap x = new VisibleHeap(50);
        x.make(0, PAIR, 7, 7, 0);
        x.register(0, 7);
        x.collect();
        due.is("a live one is not told of", x.count(3), 0);
        x.copy(0, -1);
        due.is("a dead one is kept in the queue", x.collect(), 0);
        due.is("queue", x.count(3), 1);
        due.is("registrations", x.count(4), 0);
    }

    // "what was registered for a live object": for a dead one it does not hold, in the first reckoning.
    private void deadRegistrationHoldsNothing() {
        VisibleHeap x = new VisibleHeap(50);
        x.make(0, PAIR, 7, 7, 0);
        x.make(1, PAIR, 7, 7, 0);
        x.make(2, WEAK, 1, 7, 0);
        x.register(0, 1);
        x.copy(1, -1);
        x.collect();
        value(x, 2, 0, PAIR);
        x.copy(0, -1);
        due.is("both are in the queue", x.collect(), 0);
        value(x, 2, 0, NOTHING);
    }

    // "Then, of all objects": before the queue brings some of them back.
    private void clearedThoughTheQueueBringsBack() {
        VisibleHeap x = new VisibleHeap(50);
        x.make(0, PAIR, 7, 7, 0);
        x.make(1, WEAK, 0, 7, 0);
        x.make(2, PAIR, 0, 1, 0);
        x.register(2, 7);
        x.copy(0, -1);
        x.copy(1, -1);
        x.copy(2, -1);
        due.is("the queue holds all three", x.collect(), 0);
        x.next(3, 4);
        value(x, 3, 0, PAIR);
        x.get(5, 3, 1);
        value(x, 5, 0, NOTHING);
    }

    // "as they were registered, behind what is there"
    private void behindWhatIsThere() {
        VisibleHeap x = new VisibleHeap(50);
        for (int r = 0; r < 3; r++) {
            x.make(r, PAIR, 7, 7, 0);
            x.number(6, r);
            x.register(r, 6);
        }
        x.copy(1, -1);
        x.collect();
        x.copy(2, -1);
        x.copy(0, -1);
        x.collect();
        int[] told = {1, 0, 2};
        for (int want : told) {
            due.yes("next", x.next(3, 4));
            holds(x, 4, NUMBER, want);
        }
        due.no("no more", x.next(3, 4));
    }

    // "Then what is live is reckoned anew with the queue"
    private void queueHoldsWhatItsObjectsHold() {
        VisibleHeap x = new VisibleHeap(50);
        x.make(0, VECTOR, 7, 7, 2);
        x.make(1, PAIR, 0, 7, 0);
        x.make(0, WEAK, 7, 7, 0);
        x.make(2, PAIR, 0, 7, 0);
        x.register(1, 2);
        x.copy(0, -1);
        x.copy(1, -1);
        x.copy(2, -1);
        due.is("all is held by the queue", x.collect(), 0);
        due.is("and again", x.collect(), 0);
        due.is("objects", x.count(1), 4);
        x.next(1, 2);
        value(x, 1, 0, VECTOR);
        value(x, 2, 0, WEAK);
    }

    private void entriesOfATableInTheQueue() {
        VisibleHeap x = new VisibleHeap(60);
        x.make(0, TABLE, 7, 7, 0);
        x.make(1, PAIR, 7, 7, 0);
        x.make(2, PAIR, 7, 7, 0);
        x.make(3, VECTOR, 7, 7, 4);
        x.put(0, 1, 3);
        x.put(0, 2, 3);
        x.put(0, 7, 2);
        x.register(0, 2);
        x.copy(0, -1);
        x.copy(2, -1);
        x.copy(3, -1);
        due.is("the entry of the dead key goes, though the key is in the queue", x.collect(), 5);
        x.next(0, 2);
        due.is("entries", x.look(0, 2), 2);
        due.is("find of the live key", x.find(3, 0, 1), 1);
        holds(x, 3, VECTOR, 0);
        due.is("find of the dead key", x.find(3, 0, 2), 0);
        due.is("find of NOTHING", x.find(4, 0, 7), 1);
        due.is("its value", x.same(4, 2), 1);
    }

    // "how many cells are in use less than before": none, if there is nothing to collect.
    private void nothingToCollect() {
        VisibleHeap x = new VisibleHeap(20);
        due.is("collect of the empty", x.collect(), 0);
        x.make(0, VECTOR, 7, 7, 17);
        due.is("collect of the full", x.collect(), 0);
        due.is("collections", x.count(2), 2);
    }

    private void allIsGone() {
        VisibleHeap x = new VisibleHeap(5000);
        x.make(0, TABLE, 7, 7, 0);
        for (int i = 0; i < 40; i++) {
            x.number(1, i);
            x.make(2, VECTOR, 2, 7, 100);
            x.put(0, 1, 2);
        }
        int used = 3 + 40 * (103 + 5);
        due.is("cells", x.count(0), used);
        x.copy(0, -1);
        x.copy(2, -1);
        due.is("all cells", x.collect(), used);
        due.is("none in use", x.count(0), 0);
        due.is("no objects", x.count(1), 0);
        due.is("nothing more", x.collect(), 0);
    }

    // "C is cells, if that is 20 .. 5000, otherwise 500."
    private void cellsAtTheEdges() {
        int[] told = {20, 5000, 19, 5001, 0, -1, -20, LEAST, MOST};
        int[] cells = {20, 5000, 500, 500, 500, 500, 500, 500, 500};
        for (int i = 0; i < told.length; i++) {
            VisibleHeap x = new VisibleHeap(told[i]);
            int held = 0;
            while (cells[i] - held > 103) {
                x.make(0, VECTOR, 0, 0, 50);
                held += 53;
            }
            due.is("a cell too many in " + told[i], x.make(1, VECTOR, 0, 0, cells[i] - held - 2) == 1 ? 1 : 0, 0);
            due.is("the last cell in " + told[i], x.make(1, VECTOR, 0, 0, cells[i] - held - 3), 1);
            due.is("cells", x.count(0), cells[i]);
        }
    }

    // "Register r holds a number: true; false if there is no such register."
    private void numberAtTheEdges() {
        VisibleHeap x = new VisibleHeap(20);
        for (int v : new int[] {0, -1, 1, LEAST, MOST}) {
            due.yes("number(7, " + v + ")", x.number(7, v));
            holds(x, 7, NUMBER, v);
            due.no("number(8, " + v + ")", x.number(8, v));
            due.no("number(-1, " + v + ")", x.number(-1, v));
        }
    }

    // "(NOTHING, if s is -1): true; false if there is no such one."
    private void copyOfMinusOne() {
        VisibleHeap x = new VisibleHeap(20);
        x.number(0, 3);
        due.yes("copy(7, 0)", x.copy(7, 0));
        due.yes("copy(0, -1)", x.copy(0, -1));
        holds(x, 0, NOTHING, 0);
        due.yes("copy(0, 7)", x.copy(0, 7));
        holds(x, 0, NUMBER, 3);
        due.no("copy(0, -2)", x.copy(0, -2));
        due.no("copy(0, 8)", x.copy(0, 8));
        due.no("copy(-1, 0)", x.copy(-1, 0));
        due.no("copy(-1, -1)", x.copy(-1, -1));
        due.no("copy(8, -1)", x.copy(8, -1));
        holds(x, 0, NUMBER, 3);
        due.yes("copy(0, 0)", x.copy(0, 0));
        holds(x, 0, NUMBER, 3);
    }

    // "-1, refused, if there is no such .. n"
    private void vectorAtTheEdges() {
        VisibleHeap x = new VisibleHeap(300);
        due.is("n is 0", x.make(0, VECTOR, 7, 7, 0), 1);
        due.is("n is 100", x.make(1, VECTOR, 7, 7, 100), 1);
        due.is("n is -1", x.make(2, VECTOR, 7, 7, -1), -1);
        due.is("n is 101", x.make(2, VECTOR, 7, 7, 101), -1);
        due.is("n is the least", x.make(2, VECTOR, 7, 7, LEAST), -1);
        due.is("n is the most", x.make(2, VECTOR, 7, 7, MOST), -1);
        due.is("n is so that 3 + n wraps around", x.make(2, VECTOR, 7, 7, MOST - 2), -1);
        holds(x, 2, NOTHING, 0);
    }

    // "(n is told for it alone)"
    private void lengthIsForVectorsAlone() {
        for (int n : new int[] {-1, 101, LEAST, MOST}) {
            VisibleHeap x = new VisibleHeap(20);
            due.is("pair and " + n, x.make(0, PAIR, 7, 7, n), 1);
            due.is("weak and " + n, x.make(1, WEAK, 7, 7, n), 1);
            due.is("ephemeron and " + n, x.make(2, EPHEMERON, 7, 7, n), 1);
            due.is("table and " + n, x.make(3, TABLE, 7, 7, n), 1);
            due.is("cells", x.count(0), 14);
        }
    }

    // "if there is no such register (s and t only as far as needed)"
    private void registersAsFarAsNeeded() {
        for (int bad : new int[] {-1, 8, LEAST, MOST}) {
            VisibleHeap x = new VisibleHeap(50);
            due.is("pair, s", x.make(0, PAIR, bad, 7, 0), -1);
            due.is("pair, t", x.make(0, PAIR, 7, bad, 0), -1);
            due.is("vector, s", x.make(0, VECTOR, bad, 7, 2), -1);
            due.is("vector, t", x.make(0, VECTOR, 7, bad, 2), 1);
            due.is("weak, s", x.make(0, WEAK, bad, 7, 0), -1);
            due.is("weak, t", x.make(0, WEAK, 7, bad, 0), 1);
            due.is("ephemeron, s", x.make(0, EPHEMERON, bad, 7, 0), -1);
            due.is("ephemeron, t", x.make(0, EPHEMERON, 7, bad, 0), -1);
            due.is("table, both", x.make(0, TABLE, bad, bad, 0), 1);
            due.is("table, r", x.make(bad, TABLE, 7, 7, 0), -1);
            due.is("kind -1", x.make(0, -1, 7, 7, 0), -1);
            due.is("kind 5", x.make(0, 5, 7, 7, 0), -1);
            due.is("objects", x.count(1), 3);
        }
    }

    private void makeIntoItsOwnSource() {
        VisibleHeap x = new VisibleHeap(20);
        x.make(0, PAIR, 0, 0, 0);
        due.is("look(0, 1)", x.look(0, 1), 1);
        due.is("make(0, 0, 0, 0)", x.make(0, PAIR, 0, 0, 0), 1);
        x.get(1, 0, 0);
        due.is("the new one holds the old", x.look(1, 1), 1);
        x.get(1, 0, 1);
        due.is("twice", x.look(1, 1), 1);
        due.is("and is another", x.look(0, 1), 2);
    }

    // "of a pair 0 or 1, a vector 0 .. n - 1, a weak reference 0, an ephemeron 0 key, 1 value"
    private void getAtTheEdges() {
        VisibleHeap x = new VisibleHeap(200);
        x.number(5, 5);
        x.number(6, 6);
        int[] last = {1, 99, 0, 1, -1};
        for (int kind = 0; kind < 5; kind++) {
            x.make(kind, kind, 5, 6, 100);
            due.no("value -1 of kind " + kind, x.get(7, kind, -1));
            due.no("value " + (last[kind] + 1) + " of kind " + kind, x.get(7, kind, last[kind] + 1));
            holds(x, 7, NOTHING, 0);
            if (last[kind] >= 0) {
                value(x, kind, 0, NUMBER);
                value(x, kind, last[kind], NUMBER);
            }
        }
        x.get(7, PAIR, 1);
        holds(x, 7, NUMBER, 6);
        x.get(7, EPHEMERON, 0);
        holds(x, 7, NUMBER, 5);
        x.get(7, EPHEMERON, 1);
        holds(x, 7, NUMBER, 6);
        x.make(0, VECTOR, 5, 5, 0);
        due.no("value 0 of a vector of none", x.get(7, 0, 0));
    }

    // The values of the cleared and the broken are there, and are NOTHING.
    private void getOfBroken() {
        VisibleHeap x = new VisibleHeap(50);
        x.make(0, PAIR, 7, 7, 0);
        x.make(1, WEAK, 0, 0, 0);
        x.make(2, EPHEMERON, 0, 0, 0);
        x.copy(0, -1);
        x.collect();
        value(x, 1, 0, NOTHING);
        value(x, 2, 0, NOTHING);
        value(x, 2, 1, NOTHING);
        due.no("weak, 1", x.get(7, 1, 1));
        due.no("ephemeron, 2", x.get(7, 2, 2));
    }

    private void getOverItself() {
        VisibleHeap x = new VisibleHeap(20);
        x.number(0, 4);
        x.make(0, PAIR, 0, 0, 0);
        due.yes("get(0, 0, 1)", x.get(0, 0, 1));
        holds(x, 0, NUMBER, 4);
        due.no("now there is no value", x.get(0, 0, 1));
    }

    private void setAtTheEdges() {
        VisibleHeap x = new VisibleHeap(200);
        x.make(0, PAIR, 7, 7, 0);
        x.make(1, VECTOR, 7, 7, 100);
        x.make(2, VECTOR, 7, 7, 0);
        x.number(3, 3);
        due.yes("set(0, 0, 3)", x.set(0, 0, 3));
        due.yes("set(0, 1, 3)", x.set(0, 1, 3));
        due.no("set(0, 2, 3)", x.set(0, 2, 3));
        due.no("set(0, -1, 3)", x.set(0, -1, 3));
        due.yes("set(1, 0, 3)", x.set(1, 0, 3));
        due.yes("set(1, 99, 3)", x.set(1, 99, 3));
        due.no("set(1, 100, 3)", x.set(1, 100, 3));
        due.no("set(1, -1, 3)", x.set(1, -1, 3));
        due.no("set(2, 0, 3)", x.set(2, 0, 3));
        due.no("set(0, 0, -1)", x.set(0, 0, -1));
        value(x, 0, 0, NUMBER);
        value(x, 1, 99, NUMBER);
        value(x, 1, 98, NOTHING);
    }

    // "or it is another object"
    private void setOfOtherObjects() {
        VisibleHeap x = new VisibleHeap(50);
        x.number(0, 3);
        x.make(1, WEAK, 7, 7, 0);
        x.make(2, EPHEMERON, 7, 7, 0);
        x.make(3, TABLE, 7, 7, 0);
        x.put(3, 7, 7);
        for (int s = 0; s < 8; s++) {
            due.no("set(" + s + ", 0, 0)", x.set(s, 0, 0));
            due.no("set(" + s + ", 1, 0)", x.set(s, 1, 0));
        }
        value(x, 1, 0, NOTHING);
        value(x, 2, 0, NOTHING);
        value(x, 2, 1, NOTHING);
    }

    // "1 it had one, 2 a new entry was made"
    private void putAnswers() {
        VisibleHeap x = new VisibleHeap(50);
        x.make(0, TABLE, 7, 7, 0);
        due.is("new", x.put(0, 7, 0), 2);
        due.is("had one", x.put(0, 7, 7), 1);
        due.is("find", x.find(0, 0, 7), 1);
        holds(x, 0, NOTHING, 0);
        due.is("no table in s now", x.put(0, 7, 7), -1);
    }

    // A key that has a value needs no room.
    private void putWithKeyInAFullHeap() {
        VisibleHeap x = new VisibleHeap(23);
        x.make(0, TABLE, 7, 7, 0);
        x.put(0, 7, 7);
        x.make(1, VECTOR, 7, 7, 12);
        due.is("cells", x.count(0), 23);
        due.is("put of the key that is there", x.put(0, 7, 1), 1);
        due.is("no collection", x.count(2), 0);
        due.is("put of a new key", x.put(0, 1, 1), 0);
        due.is("collection", x.count(2), 1);
        due.is("its value", x.find(2, 0, 7), 1);
        due.is("is the vector", x.same(2, 1), 1);
    }

    // "0 if there is none, nothing changing"
    private void findInAnEmptyTable() {
        VisibleHeap x = new VisibleHeap(20);
        x.make(0, TABLE, 7, 7, 0);
        x.number(1, 1);
        for (int t = 0; t < 8; t++) {
            due.is("find(1, 0, " + t + ")", x.find(1, 0, t), 0);
        }
        holds(x, 1, NUMBER, 1);
        due.is("find into the table's own register", x.find(0, 0, 1), 0);
        holds(x, 0, TABLE, 0);
    }

    private void findAfterTheKeyDied() {
        VisibleHeap x = new VisibleHeap(50);
        x.make(0, TABLE, 7, 7, 0);
        x.make(1, PAIR, 7, 7, 0);
        x.register(1, 7);
        x.put(0, 1, 0);
        x.copy(1, -1);
        x.collect();
        x.next(1, 2);
        due.is("the key is back, its entry is not", x.find(3, 0, 1), 0);
        due.is("put makes a new one", x.put(0, 1, 0), 2);
    }

    // "Keys are the same if they are one object, like numbers, or both NOTHING."
    private void keysThatAreTheSame() {
        VisibleHeap x = new VisibleHeap(100);
        x.make(0, TABLE, 7, 7, 0);
        x.make(1, PAIR, 7, 7, 0);
        x.make(2, PAIR, 7, 7, 0);
        x.look(1, 1);
        x.number(3, 1);
        x.number(4, 0);
        x.number(5, LEAST);
        int[] keys = {1, 2, 3, 4, 5, 7};
        for (int key : keys) {
            due.is("put of key " + key, x.put(0, key, key), 2);
        }
        for (int key : keys) {
            due.is("find of key " + key, x.find(6, 0, key), 1);
            for (int other : keys) {
                due.is("same(6, " + other + ")", x.same(6, other), key == other ? 1 : 0);
            }
        }
        x.number(6, LEAST);
        due.is("a like number has one", x.put(0, 6, 7), 1);
        x.number(6, MOST);
        due.is("another has none", x.find(6, 0, 6), 0);
    }

    private void putTableIntoItself() {
        VisibleHeap x = new VisibleHeap(20);
        x.make(0, TABLE, 7, 7, 0);
        due.is("put(0, 0, 0)", x.put(0, 0, 0), 2);
        due.is("it is held", x.collect(), 0);
        due.is("find(1, 0, 0)", x.find(1, 0, 0), 1);
        due.is("itself", x.same(0, 1), 1);
        x.copy(0, -1);
        x.copy(1, -1);
        due.is("it does not hold itself", x.collect(), 8);
    }

    // "60 registrations and what is in the queue"
    private void sixtyRegistrations() {
        VisibleHeap x = new VisibleHeap(20);
        x.make(0, PAIR, 7, 7, 0);
        for (int i = 0; i < 59; i++) {
            x.register(0, 7);
        }
        due.yes("the 60th", x.register(0, 7));
        due.no("the 61st", x.register(0, 7));
        due.is("registrations", x.count(4), 60);
    }

    private void sixtyInTheQueue() {
        VisibleHeap x = new VisibleHeap(20);
        x.make(0, PAIR, 7, 7, 0);
        for (int i = 0; i < 60; i++) {
            x.register(0, 7);
        }
        x.copy(0, -1);
        x.collect();
        x.make(0, PAIR, 7, 7, 0);
        due.is("queue", x.count(3), 60);
        due.no("none more", x.register(0, 7));
        due.yes("one leaves", x.next(1, 2));
        due.yes("one more", x.register(0, 7));
        due.no("none more", x.register(0, 7));
    }

    private void sixtyInBoth() {
        VisibleHeap x = new VisibleHeap(20);
        x.make(0, PAIR, 7, 7, 0);
        x.register(0, 7);
        x.make(0, PAIR, 7, 7, 0);
        x.collect();
        for (int i = 0; i < 58; i++) {
            x.register(0, 7);
        }
        due.yes("1 and 58", x.register(0, 7));
        due.no("1 and 59", x.register(0, 7));
        due.is("queue", x.count(3), 1);
        due.is("registrations", x.count(4), 59);
    }

    private void collectingKeepsTheSum() {
        VisibleHeap x = new VisibleHeap(20);
        x.make(0, PAIR, 7, 7, 0);
        x.make(1, PAIR, 7, 7, 0);
        for (int i = 0; i < 30; i++) {
            x.register(0, 7);
            x.register(1, 7);
        }
        x.copy(0, -1);
        x.collect();
        due.is("queue", x.count(3), 30);
        due.is("registrations", x.count(4), 30);
        due.no("none more", x.register(1, 7));
        x.copy(1, -1);
        x.collect();
        due.is("queue", x.count(3), 60);
        due.is("registrations", x.count(4), 0);
    }

    // "The object in s is registered with what t holds, behind all that are": as often as it is told.
    private void registerTwice() {
        VisibleHeap x = new VisibleHeap(20);
        x.make(0, PAIR, 7, 7, 0);
        x.number(1, 1);
        due.yes("once", x.register(0, 1));
        due.yes("twice", x.register(0, 1));
        due.yes("with NOTHING", x.register(0, 7));
        x.copy(0, -1);
        x.collect();
        due.is("queue", x.count(3), 3);
        x.next(2, 3);
        holds(x, 3, NUMBER, 1);
        x.next(4, 3);
        due.is("one object", x.same(2, 4), 1);
        x.next(4, 3);
        holds(x, 3, NOTHING, 0);
    }

    // "false if there is none"
    private void nextOfAnEmptyQueue() {
        VisibleHeap x = new VisibleHeap(20);
        x.number(0, 1);
        x.number(1, 2);
        due.no("next(0, 1)", x.next(0, 1));
        x.make(2, PAIR, 7, 7, 0);
        x.register(2, 7);
        x.collect();
        due.no("next(0, 1) with a registration", x.next(0, 1));
        x.copy(2, -1);
        due.no("next(0, 1) before it is collected", x.next(0, 1));
        holds(x, 0, NUMBER, 1);
        holds(x, 1, NUMBER, 2);
    }

    // "no such register, or r is s"
    private void nextIntoOneRegister() {
        VisibleHeap x = new VisibleHeap(20);
        x.make(2, PAIR, 7, 7, 0);
        x.register(2, 7);
        x.copy(2, -1);
        x.collect();
        due.no("next(0, 0)", x.next(0, 0));
        due.no("next(7, 7)", x.next(7, 7));
        due.no("next(-1, 0)", x.next(-1, 0));
        due.no("next(0, -1)", x.next(0, -1));
        due.no("next(8, 0)", x.next(8, 0));
        due.no("next(0, 8)", x.next(0, 8));
        due.is("queue", x.count(3), 1);
        due.yes("next(7, 0)", x.next(7, 0));
        holds(x, 7, PAIR, 0);
        holds(x, 0, NOTHING, 0);
    }

    private void nextToTheLast() {
        VisibleHeap x = new VisibleHeap(20);
        for (int round = 0; round < 3; round++) {
            x.make(0, PAIR, 7, 7, 0);
            x.number(1, round);
            x.register(0, 1);
            x.copy(0, -1);
            x.collect();
            due.yes("the only one", x.next(2, 3));
            holds(x, 3, NUMBER, round);
            due.no("no other", x.next(2, 3));
            due.is("queue", x.count(3), 0);
        }
    }

    // "-1 for no such register or what (a number may be -1, too)"
    private void lookAtNumberMinusOne() {
        VisibleHeap x = new VisibleHeap(20);
        x.number(0, -1);
        due.is("look(0, 0)", x.look(0, 0), 5);
        due.is("look(0, 1)", x.look(0, 1), -1);
        due.is("look(0, 2)", x.look(0, 2), 0);
    }

    // "(0 of NOTHING)", "0 of a number and NOTHING"
    private void lookAtNothing() {
        VisibleHeap x = new VisibleHeap(20);
        due.is("look(7, 0)", x.look(7, 0), 6);
        due.is("look(7, 1)", x.look(7, 1), 0);
        due.is("look(7, 2)", x.look(7, 2), 0);
        due.is("no number of identity was given", x.count(5), 0);
    }

    private void lookAtOtherWhats() {
        VisibleHeap x = new VisibleHeap(20);
        x.make(0, PAIR, 7, 7, 0);
        for (int what : new int[] {-1, 3, LEAST, MOST}) {
            due.is("look(0, " + what + ")", x.look(0, what), -1);
            due.is("look(7, " + what + ")", x.look(7, what), -1);
        }
        for (int s : new int[] {-1, 8, LEAST, MOST}) {
            due.is("look(" + s + ", 0)", x.look(s, 0), -1);
            due.is("look(" + s + ", 1)", x.look(s, 1), -1);
            due.is("look(" + s + ", 2)", x.look(s, 2), -1);
        }
    }

    // "Whether registers r and s hold the same, as keys: 1 or 0; -1 if there is no such one."
    private void sameAtTheEdges() {
        VisibleHeap x = new VisibleHeap(20);
        due.is("same(0, 7)", x.same(0, 7), 1);
        x.number(0, 0);
        due.is("0 is not NOTHING", x.same(0, 7), 0);
        due.is("same(0, 0)", x.same(0, 0), 1);
        due.is("same(-1, -1)", x.same(-1, -1), -1);
        due.is("same(7, -1)", x.same(7, -1), -1);
        due.is("same(8, 7)", x.same(8, 7), -1);
        due.is("same(7, 8)", x.same(7, 8), -1);
    }

    // "1 objects (entries are such)"
    private void countOfEntries() {
        VisibleHeap x = new VisibleHeap(50);
        x.make(0, TABLE, 7, 7, 0);
        due.is("an empty table", x.count(1), 1);
        x.put(0, 7, 7);
        due.is("with an entry", x.count(1), 2);
        x.put(0, 7, 0);
        due.is("with the entry's other value", x.count(1), 2);
        x.make(1, PAIR, 7, 7, 0);
        x.put(0, 1, 7);
        due.is("with a second, and its key", x.count(1), 4);
        x.copy(1, -1);
        x.collect();
        due.is("without them", x.count(1), 2);
    }

    // "2 collections in all"
    private void countOfRefusedMakes() {
        VisibleHeap x = new VisibleHeap(20);
        x.make(0, VECTOR, 7, 7, 17);
        x.make(1, PAIR, 7, 7, 0);
        due.is("make without room", x.count(2), 1);
        x.make(1, PAIR, 8, 7, 0);
        due.is("a refused make", x.count(2), 1);
        x.collect();
        due.is("collect", x.count(2), 2);
        x.copy(0, -1);
        x.make(0, TABLE, 7, 7, 0);
        due.is("make with room after it", x.count(2), 3);
        x.make(1, VECTOR, 7, 7, 12);
        x.put(0, 1, 1);
        due.is("put without room", x.count(2), 4);
    }

    // "-1 for another what"
    private void countAtTheEdges() {
        VisibleHeap x = new VisibleHeap(20);
        for (int what = 0; what < 6; what++) {
            due.is("count(" + what + ")", x.count(what), 0);
        }
        for (int what : new int[] {-1, 6, LEAST, MOST}) {
            due.is("count(" + what + ")", x.count(what), -1);
        }
    }
}
