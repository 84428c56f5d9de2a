import java.util.ArrayList;
import java.util.HashSet;
import java.util.List;
import java.util.Set;

/** The document's words as plainly as can be, for ModelTest: slow, and built unlike the class itself. */
final class Model {
    static final Object NOTHING = "nothing";

    static final class Obj {
        int kind;
        int identity;
        List<Object> values = new ArrayList<>();
        /** Of a table: keys and values. */
        List<Object[]> entries = new ArrayList<>();

        int cells() {
            int[] fixed = {4, 3 + values.size(), 3, 4, 3 + 5 * entries.size()};
            return fixed[kind];
        }
    }

    private final int capacity;
    private final Object[] registers = new Object[8];
    private List<Obj> heap = new ArrayList<>();
    private final List<Object[]> registrations = new ArrayList<>();
    private final List<Object[]> queue = new ArrayList<>();
    private int collections;
    private int identities;

    Model(int cells) {
        capacity = cells < 20 || cells > 5000 ? 500 : cells;
        for (int r = 0; r < 8; r++) {
            registers[r] = NOTHING;
        }
    }

    private static boolean none(int... rs) {
        for (int r : rs) {
            if (r < 0 || r > 7) {
                return true;
            }
        }
        return false;
    }

    private static boolean alike(Object a, Object b) {
        return a == b || (a instanceof Integer && a.equals(b));
    }

    private int inUse() {
        int sum = 0;
        for (Obj o : heap) {
            sum += o.cells();
        }
        return sum;
    }

    boolean number(int r, int v) {
        if (none(r)) {
            return false;
        }
        registers[r] = v;
        return true;
    }

    boolean copy(int r, int s) {
        if (none(r) || (s != -1 && none(s))) {
            return false;
        }
        registers[r] = s == -1 ? NOTHING : registers[s];
        return true;
    }

    int make(int r, int kind, int s, int t, int n) {
        if (none(r) || kind < 0 || kind > 4 || (kind < 4 && none(s)) || ((kind == 0 || kind == 3) && none(t))) {
            return -1;
        }
        if (kind == 1 && (n < 0 || n > 100)) {
            return -1;
        }
        Obj made = new Obj();
        made.kind = kind;
        int[] values = {2, n, 1, 2, 0};
        for (int k = 0; k < values[kind]; k++) {
            made.values.add(registers[k == 1 && kind != 1 ? t : s]);
        }
        if (inUse() + made.cells() > capacity) {
            collect();
        }
        if (inUse() + made.cells() > capacity) {
            return 0;
        }
        heap.add(made);
        registers[r] = made;
        return 1;
    }

    boolean get(int r, int s, int k) {
        if (none(r, s) || !(registers[s] instanceof Obj o) || k < 0 || k >= o.values.size()) {
            return false;
        }
        registers[r] = o.values.get(k);
        return true;
    }

    boolean set(int s, int k, int t) {
        if (none(s, t) || !(registers[s] instanceof Obj o) || o.kind > 1 || k < 0 || k >= o.values.size()) {
            return false;
        }
        o.values.set(k, registers[t]);
        return true;
    }

    int put(int s, int t, int u) {
        if (none(s, t, u) || !(registers[s] instanceof Obj o) || o.kind != 4) {
            return -1;
        }
        for (Object[] e : o.entries) {
            if (alike(e[0], registers[t])) {
                e[1] = registers[u];
                return 1;
            }
        }
        if (inUse() + 5 > capacity) {
            collect();
        }
        if (inUse() + 5 > capacity) {
            return 0;
        }
        o.entries.add(new Object[] {registers[t], registers[u]});
        return 2;
    }

    int find(int r, int s, int t) {
        if (none(r, s, t) || !(registers[s] instanceof Obj o) || o.kind != 4) {
            return -1;
        }
        for (Object[] e : o.entries) {
            if (alike(e[0], registers[t])) {
                registers[r] = e[1];
                return 1;
            }
        }
        return 0;
    }

    boolean register(int s, int t) {
        if (none(s, t) || !(registers[s] instanceof Obj) || registrations.size() + queue.size() == 60) {
            return false;
        }
        registrations.add(new Object[] {registers[s], registers[t]});
        return true;
    }

    boolean next(int r, int s) {
        if (none(r, s) || r == s || queue.isEmpty()) {
            return false;
        }
        Object[] told = queue.remove(0);
        registers[r] = told[0];
        registers[s] = told[1];
        return true;
    }

    int collect() {
        collections++;
        int before = inUse();
        Set<Object> live = live();
        for (Obj o : heap) {
            if (o.kind == 2 && !isLive(live, o.values.get(0))) {
                o.values.set(0, NOTHING);
            }
            if (o.kind == 3 && !isLive(live, o.values.get(0))) {
                o.values.set(0, NOTHING);
                o.values.set(1, NOTHING);
            }
            o.entries.removeIf(e -> !isLive(live, e[0]));
        }
        for (Object[] g : new ArrayList<>(registrations)) {
            if (!isLive(live, g[0])) {
                registrations.remove(g);
                queue.add(g);
            }
        }
        Set<Object> anew = live();
        heap.removeIf(o -> !anew.contains(o));
        return before - inUse();
    }

    private static boolean isLive(Set<Object> live, Object value) {
        return !(value instanceof Obj) || live.contains(value);
    }

    /** Rules are applied to all objects until none finds more. */
    private Set<Object> live() {
        Set<Object> live = new HashSet<>(List.of(registers));
        for (Object[] q : queue) {
            live.add(q[0]);
            live.add(q[1]);
        }
        int before = -1;
        while (live.size() != before) {
            before = live.size();
            for (Obj o : heap) {
                if (live.contains(o)) {
                    addHeld(live, o);
                }
            }
            for (Object[] g : registrations) {
                if (live.contains(g[0])) {
                    live.add(g[1]);
                }
            }
        }
        return live;
    }

    private static void addHeld(Set<Object> live, Obj o) {
        if (o.kind < 2) {
            live.addAll(o.values);
        }
        if (o.kind == 3 && isLive(live, o.values.get(0))) {
            live.add(o.values.get(1));
        }
        for (Object[] e : o.entries) {
            if (isLive(live, e[0])) {
                live.add(e[1]);
            }
        }
    }

    int look(int s, int what) {
        if (none(s) || what < 0 || what > 2) {
            return -1;
        }
        Object v = registers[s];
        if (v instanceof Obj o) {
            if (what == 1 && o.identity == 0) {
                o.identity = ++identities;
            }
            return what == 0 ? o.kind : what == 1 ? o.identity : o.values.size() + o.entries.size();
        }
        if (v instanceof Integer i) {
            return what == 0 ? 5 : what == 1 ? i : 0;
        }
        return what == 0 ? 6 : 0;
    }

    int same(int r, int s) {
        return none(r, s) ? -1 : alike(registers[r], registers[s]) ? 1 : 0;
    }

    int count(int what) {
        switch (what) {
            case 0:
                return inUse();
            case 1:
                int objects = heap.size();
                for (Obj o : heap) {
                    objects += o.entries.size();
                }
                return objects;
            case 2:
                return collections;
            case 3:
                return queue.size();
            case 4:
                return registrations.size();
            case 5:
                return identities;
            default:
                return -1;
        }
    }
}
