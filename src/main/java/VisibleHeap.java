/**
 * A heap whose collections can be watched: see ../shared/DOC.md for its promises.
 *
 * <p>A value is a Num, a Thing (an object of the heap), or null, which stands for NOTHING.
 */
public final class VisibleHeap {
    private static final int LEAST_CELLS = 20;
    private static final int MOST_CELLS = 5000;
    private static final int USUAL_CELLS = 500;
    private static final int REGISTERS = 8;
    private static final int MOST_VALUES = 100;
    private static final int MOST_REGISTRATIONS = 60;

    private static final int PAIR = 0;
    private static final int VECTOR = 1;
    private static final int WEAK = 2;
    private static final int EPHEMERON = 3;
    private static final int TABLE = 4;
    private static final int NUMBER = 5;
    private static final int NOTHING = 6;

    private static final int PAIR_CELLS = 4;
    private static final int VECTOR_CELLS = 3;
    private static final int WEAK_CELLS = 3;
    private static final int EPHEMERON_CELLS = 4;
    private static final int TABLE_CELLS = 3;
    private static final int ENTRY_CELLS = 5;

    private final int cells;
    private final Value[] registers = new Value[REGISTERS];
    private final TieList registrations = new TieList();
    private final TieList queue = new TieList();
    private final Reckoning reckoning = new Reckoning();
    private Thing newest;
    private int cellsInUse;
    private int objects;
    private int collections;
    private int identities;

    public VisibleHeap(int cells) {
        this.cells = cells >= LEAST_CELLS && cells <= MOST_CELLS ? cells : USUAL_CELLS;
    }

    public boolean number(int r, int v) {
        if (!isRegister(r)) {
            return false;
        }
        registers[r] = new Num(v);
        return true;
    }

    public boolean copy(int r, int s) {
        if (!isRegister(r) || (s != -1 && !isRegister(s))) {
            return false;
        }
        registers[r] = valueIn(s);
        return true;
    }

    public int make(int r, int kind, int s, int t, int n) {
        if (!isRegister(r) || !canBuild(kind, s, t, n)) {
            return -1;
        }
        Thing made = build(kind, valueIn(s), valueIn(t), n);
        if (!findRoom(made.cells())) {
            return 0;
        }
        keep(made);
        registers[r] = made;
        return 1;
    }

    public boolean get(int r, int s, int k) {
        if (isRegister(r) && valueIn(s) instanceof Thing thing && thing.hasValue(k)) {
            registers[r] = thing.valueAt(k);
            return true;
        }
        return false;
    }

    public boolean set(int s, int k, int t) {
        if (isRegister(t) && valueIn(s) instanceof Row row && row.hasValue(k)) {
            row.values[k] = valueIn(t);
            return true;
        }
        return false;
    }

    public int put(int s, int t, int u) {
        if (isRegister(t) && isRegister(u) && valueIn(s) instanceof Table table) {
            Tie entry = table.entries.withKey(valueIn(t));
            if (entry != null) {
                entry.value = valueIn(u);
                return 1;
            }
            if (!findRoom(ENTRY_CELLS)) {
                return 0;
            }
            addEntry(table, new Tie(valueIn(t), valueIn(u)));
            return 2;
        }
        return -1;
    }

    public int find(int r, int s, int t) {
        if (isRegister(r) && isRegister(t) && valueIn(s) instanceof Table table) {
            Tie entry = table.entries.withKey(valueIn(t));
            if (entry == null) {
                return 0;
            }
            registers[r] = entry.value;
            return 1;
        }
        return -1;
    }

    public boolean register(int s, int t) {
        if (registrations.size + queue.size >= MOST_REGISTRATIONS) {
            return false;
        }
        if (isRegister(t) && valueIn(s) instanceof Thing thing) {
            registrations.append(new Tie(thing, valueIn(t)));
            return true;
        }
        return false;
    }

    public boolean next(int r, int s) {
        if (!isRegister(r) || !isRegister(s) || r == s) {
            return false;
        }
        Tie told = queue.takeFirst();
        if (told == null) {
            return false;
        }
        registers[r] = told.key;
        registers[s] = told.value;
        return true;
    }

    public int collect() {
        int before = cellsInUse;
        collectDead();
        return before - cellsInUse;
    }

    public int look(int s, int what) {
        if (!isRegister(s)) {
            return -1;
        }
        Value value = valueIn(s);
        switch (what) {
            case 0:
                return value == null ? NOTHING : value.kind;
            case 1:
                return numberOf(value);
            case 2:
                return value == null ? 0 : value.size();
            default:
                return -1;
        }
    }

    public int same(int r, int s) {
        if (!isRegister(r) || !isRegister(s)) {
            return -1;
        }
        return areSame(valueIn(r), valueIn(s)) ? 1 : 0;
    }

    public int count(int what) {
        switch (what) {
            case 0:
                return cellsInUse;
            case 1:
                return objects;
            case 2:
                return collections;
            case 3:
                return queue.size;
            case 4:
                return registrations.size;
            case 5:
                return identities;
            default:
                return -1;
        }
    }

    private static boolean isRegister(int r) {
        return r >= 0 && r < REGISTERS;
    }

    /** NOTHING where there is no such register, so that no caller can reach outside the row. */
    private Value valueIn(int r) {
        return isRegister(r) ? registers[r] : null;
    }

    /** Registers and n bind only the kinds that use them; others may be told anything. */
    private static boolean canBuild(int kind, int s, int t, int n) {
        switch (kind) {
            case PAIR:
            case EPHEMERON:
                return isRegister(s) && isRegister(t);
            case VECTOR:
                return isRegister(s) && n >= 0 && n <= MOST_VALUES;
            case WEAK:
                return isRegister(s);
            case TABLE:
                return true;
            default:
                return false;
        }
    }

    private static Thing build(int kind, Value first, Value second, int n) {
        switch (kind) {
            case PAIR:
                return pairOf(first, second);
            case VECTOR:
                return vectorOf(n, first);
            case WEAK:
                return new Weak(first);
            case EPHEMERON:
                return new Ephemeron(first, second);
            default:
                return new Table();
        }
    }

    private static Row pairOf(Value first, Value second) {
        Row pair = new Row(PAIR, 2);
        pair.values[0] = first;
        pair.values[1] = second;
        return pair;
    }

    private static Row vectorOf(int n, Value each) {
        Row vector = new Row(VECTOR, n);
        for (int k = 0; k < vector.values.length; k++) {
            vector.values[k] = each;
        }
        return vector;
    }

    private void addEntry(Table table, Tie entry) {
        table.entries.append(entry);
        cellsInUse += ENTRY_CELLS;
        objects++;
    }

    private int numberOf(Value value) {
        if (value instanceof Num num) {
            return num.amount;
        }
        return value instanceof Thing thing ? identityOf(thing) : 0;
    }

    private int identityOf(Thing thing) {
        if (thing.identity == 0) {
            identities++;
            thing.identity = identities;
        }
        return thing.identity;
    }

    private static boolean areSame(Value one, Value other) {
        if (one instanceof Num a && other instanceof Num b) {
            return a.amount == b.amount;
        }
        return one == other;
    }

    private boolean findRoom(int needed) {
        if (needed > cells - cellsInUse) {
            collectDead();
        }
        return needed <= cells - cellsInUse;
    }

    private void keep(Thing thing) {
        thing.older = newest;
        newest = thing;
        cellsInUse += thing.cells();
        objects += thing.objects();
    }

    private void collectDead() {
        collections++;
        reckonLive();
        // Also things that are not live let go here: the queue may bring them back.
        for (Thing thing = newest; thing != null; thing = thing.older) {
            thing.letGoOfDead();
        }
        registrations.moveDeadTo(queue);
        reckonLive();
        keepLiveOnly();
    }

    private void reckonLive() {
        for (Thing thing = newest; thing != null; thing = thing.older) {
            thing.live = false;
            thing.waiting = null;
        }
        reachRoots();
        Thing reached = reckoning.takeReached();
        // Each thing is reached once, and there are fewer things than cells.
        for (int scans = 0; scans < MOST_CELLS && reached != null; scans++) {
            reached.reachHeld(reckoning);
            reckoning.reachWaiting(reached);
            reached = reckoning.takeReached();
        }
    }

    private void reachRoots() {
        for (int r = 0; r < REGISTERS; r++) {
            reckoning.reach(registers[r]);
        }
        for (Tie told = queue.first; told != null; told = told.after) {
            reckoning.reach(told.key);
            reckoning.reach(told.value);
        }
        for (Tie registration = registrations.first; registration != null; registration = registration.after) {
            reckoning.reachByKey(registration);
        }
    }

    private void keepLiveOnly() {
        Thing thing = newest;
        newest = null;
        cellsInUse = 0;
        objects = 0;
        while (thing != null) {
            Thing older = thing.older;
            if (thing.live) {
                keep(thing);
            }
            thing = older;
        }
    }

    private abstract static class Value {
        final int kind;

        Value(int kind) {
            this.kind = kind;
        }

        abstract int size();
    }

    private static final class Num extends Value {
        final int amount;

        Num(int amount) {
            super(NUMBER);
            this.amount = amount;
        }

        int size() {
            return 0;
        }
    }

    /** An object of the heap. */
    private abstract static class Thing extends Value {
        int identity;
        boolean live;
        Thing older;
        Thing reachedBefore;
        /** Ties whose value becomes live when this thing, their key, does. */
        Tie waiting;

        Thing(int kind) {
            super(kind);
        }

        abstract int cells();

        abstract void reachHeld(Reckoning reckoning);

        abstract void letGoOfDead();

        abstract Value valueAt(int k);

        int objects() {
            return 1;
        }

        boolean hasValue(int k) {
            return k >= 0 && k < size();
        }

        static boolean isLive(Value value) {
            return !(value instanceof Thing thing) || thing.live;
        }
    }

    /** A pair or a vector: both hold all their values and may be set. */
    private static final class Row extends Thing {
        final Value[] values;

        Row(int kind, int size) {
            super(kind);
            this.values = new Value[Math.max(0, size)];
        }

        int size() {
            return values.length;
        }

        int cells() {
            return kind == PAIR ? PAIR_CELLS : VECTOR_CELLS + values.length;
        }

        Value valueAt(int k) {
            return hasValue(k) ? values[k] : null;
        }

        void reachHeld(Reckoning reckoning) {
            for (int k = 0; k < values.length; k++) {
                reckoning.reach(values[k]);
            }
        }

        void letGoOfDead() {
            // A row holds whatever it has: if that is dead, the row is dead as well.
        }
    }

    private static final class Weak extends Thing {
        Value value;

        Weak(Value value) {
            super(WEAK);
            this.value = value;
        }

        int size() {
            return 1;
        }

        int cells() {
            return WEAK_CELLS;
        }

        Value valueAt(int k) {
            return value;
        }

        void reachHeld(Reckoning reckoning) {
            // To hold nothing is what makes it weak.
        }

        void letGoOfDead() {
            if (!isLive(value)) {
                value = null;
            }
        }
    }

    private static final class Ephemeron extends Thing {
        final Tie tie;

        Ephemeron(Value key, Value value) {
            super(EPHEMERON);
            this.tie = new Tie(key, value);
        }

        int size() {
            return 2;
        }

        int cells() {
            return EPHEMERON_CELLS;
        }

        Value valueAt(int k) {
            return k == 0 ? tie.key : tie.value;
        }

        void reachHeld(Reckoning reckoning) {
            reckoning.reachByKey(tie);
        }

        void letGoOfDead() {
            if (!isLive(tie.key)) {
                tie.key = null;
                tie.value = null;
            }
        }
    }

    private static final class Table extends Thing {
        final TieList entries = new TieList();

        Table() {
            super(TABLE);
        }

        int size() {
            return entries.size;
        }

        int cells() {
            return TABLE_CELLS + ENTRY_CELLS * entries.size;
        }

        int objects() {
            return 1 + entries.size;
        }

        /** Entries are asked for by key alone. */
        boolean hasValue(int k) {
            return false;
        }

        Value valueAt(int k) {
            return null;
        }

        void reachHeld(Reckoning reckoning) {
            for (Tie entry = entries.first; entry != null; entry = entry.after) {
                reckoning.reachByKey(entry);
            }
        }

        void letGoOfDead() {
            entries.moveDeadTo(null);
        }
    }

    /** A value that is held as long as its key lives: an ephemeron's, an entry or a registration. */
    private static final class Tie {
        Value key;
        Value value;
        Tie after;
        Tie waitingAfter;

        Tie(Value key, Value value) {
            this.key = key;
            this.value = value;
        }
    }

    private static final class TieList {
        Tie first;
        Tie last;
        int size;

        void append(Tie tie) {
            tie.after = null;
            if (last == null) {
                first = tie;
            } else {
                last.after = tie;
            }
            last = tie;
            size++;
        }

        Tie takeFirst() {
            Tie taken = first;
            if (taken == null) {
                return null;
            }
            first = taken.after;
            if (first == null) {
                last = null;
            }
            size--;
            return taken;
        }

        Tie withKey(Value key) {
            for (Tie tie = first; tie != null; tie = tie.after) {
                if (areSame(tie.key, key)) {
                    return tie;
                }
            }
            return null;
        }

        /** Ties whose key is dead go behind the others' list in their order, or away if it is null. */
        void moveDeadTo(TieList others) {
            Tie tie = first;
            first = null;
            last = null;
            size = 0;
            while (tie != null) {
                Tie after = tie.after;
                if (Thing.isLive(tie.key)) {
                    append(tie);
                } else if (others != null) {
                    others.append(tie);
                }
                tie = after;
            }
        }
    }

    /** The things that are known to be live while what they hold is not reckoned yet. */
    private static final class Reckoning {
        private Thing lastReached;

        void reach(Value value) {
            if (value instanceof Thing thing && !thing.live) {
                thing.live = true;
                thing.reachedBefore = lastReached;
                lastReached = thing;
            }
        }

        /** A tie waits at its key, so that no chain of keys needs the heap gone through again. */
        void reachByKey(Tie tie) {
            if (tie.key instanceof Thing key && !key.live) {
                tie.waitingAfter = key.waiting;
                key.waiting = tie;
            } else {
                reach(tie.value);
            }
        }

        void reachWaiting(Thing key) {
            for (Tie tie = key.waiting; tie != null; tie = tie.waitingAfter) {
                reach(tie.value);
            }
        }

        Thing takeReached() {
            Thing taken = lastReached;
            if (taken != null) {
                lastReached = taken.reachedBefore;
                taken.reachedBefore = null;
            }
            return taken;
        }
    }
}
