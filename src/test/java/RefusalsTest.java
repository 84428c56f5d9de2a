import java.util.ArrayList;
import java.util.List;
import java.util.function.ToIntFunction;

/**
 * "A call that is refused changes nothing, but that it may have collected where that is said": of two heaps
 * that came to be by the same calls, one gets the refused call as well, and all that can be seen of both is compared.
 */
public final class RefusalsTest {
    private static final int[] NO_REGISTER = {-1, 8, -2, 9, Integer.MIN_VALUE, Integer.MAX_VALUE};
    private static final int[] NO_KIND = {-1, 5, 6, Integer.MIN_VALUE, Integer.MAX_VALUE};
    private static final int[] NO_LENGTH = {-1, 101, Integer.MIN_VALUE, Integer.MAX_VALUE};
    private static final int[] VALUES = {2, 3, 1, 2, 0};

    private record Refused(String name, int answer, ToIntFunction<VisibleHeap> call) {
    }

    private interface Making {
        VisibleHeap make();
    }

    private final Due due = new Due("refused calls change nothing");
    private final List<Refused> refused = new ArrayList<>();

    public static void main(String[] args) {
        RefusalsTest test = new RefusalsTest();
        test.wrongRegisters();
        test.wrongKindsAndLengths();
        test.wrongValues();
        test.wrongObjects();
        test.wrongWhats();
        test.nextIntoOne();
        test.compareAll(RefusalsTest::mixed, false);
        test.refused.clear();
        test.nothingThere();
        test.compareAll(() -> new VisibleHeap(20), false);
        test.refused.clear();
        test.tooManyRegistrations();
        test.compareAll(() -> registered(60, 0), false);
        test.compareAll(() -> registered(23, 37), false);
        test.compareAll(() -> registered(0, 60), false);
        test.refused.clear();
        test.due.is("cells of the full", full().count(0), 50);
        test.due.is("collections of the full", full().count(2), 0);
        test.noRoom();
        test.compareAll(RefusalsTest::full, true);
        test.due.end();
    }

    /**
     * Registers 0 .. 4 hold an object of each kind, 5 a number, 6 NOTHING, 7 a number; one stands in the queue,
     * two are registered, and there is what a collection would take, so that none goes unseen.
     */
    private static VisibleHeap mixed() {
        VisibleHeap x = new VisibleHeap(100);
        x.make(0, 0, 6, 6, 0);
        x.number(5, 50);
        x.register(0, 5);
        x.copy(0, -1);
        x.collect();
        x.make(6, 1, 5, 5, 5);
        x.copy(6, -1);
        x.number(7, 77);
        for (int kind = 0; kind < 5; kind++) {
            x.make(kind, kind, 5, 7, 3);
        }
        x.put(4, 5, 7);
        x.put(4, 0, 1);
        x.register(1, 7);
        x.register(3, 0);
        return x;
    }

    private static VisibleHeap registered(int waiting, int queued) {
        VisibleHeap x = new VisibleHeap(50);
        x.make(0, 0, 6, 6, 0);
        for (int i = 0; i < queued; i++) {
            x.number(5, i);
            x.register(0, 5);
        }
        x.make(0, 0, 6, 6, 0);
        x.collect();
        for (int i = 0; i < waiting; i++) {
            x.number(5, 100 + i);
            x.register(0, 5);
        }
        return x;
    }

    /** No cell is free, and a collection frees 3 alone, those of a weak reference; a pair goes to the queue. */
    private static VisibleHeap full() {
        VisibleHeap x = new VisibleHeap(50);
        x.make(6, 0, 5, 5, 0);
        x.register(6, 5);
        x.make(6, 2, 6, 6, 0);
        x.copy(6, -1);
        x.make(4, 4, 0, 0, 0);
        x.number(5, 50);
        x.number(7, 77);
        x.put(4, 5, 7);
        x.make(0, 0, 5, 7, 0);
        x.put(4, 7, 0);
        x.make(1, 1, 0, 0, 3);
        x.make(2, 2, 0, 0, 0);
        x.make(3, 1, 0, 0, 14);
        return x;
    }

    private void add(int answer, String name, ToIntFunction<VisibleHeap> call) {
        refused.add(new Refused(name, answer, call));
    }

    private void wrongRegisters() {
        for (int bad : NO_REGISTER) {
            add(0, "number(" + bad + ", 1)", x -> x.number(bad, 1) ? 1 : 0);
            add(0, "copy(" + bad + ", 0)", x -> x.copy(bad, 0) ? 1 : 0);
            add(0, "copy(" + bad + ", -1)", x -> x.copy(bad, -1) ? 1 : 0);
            if (bad != -1) {
                add(0, "copy(0, " + bad + ")", x -> x.copy(0, bad) ? 1 : 0);
            }
            add(0, "get(" + bad + ", 0, 0)", x -> x.get(bad, 0, 0) ? 1 : 0);
            add(0, "get(0, " + bad + ", 0)", x -> x.get(0, bad, 0) ? 1 : 0);
            add(0, "set(" + bad + ", 0, 1)", x -> x.set(bad, 0, 1) ? 1 : 0);
            add(0, "set(0, 0, " + bad + ")", x -> x.set(0, 0, bad) ? 1 : 0);
            add(-1, "put(" + bad + ", 5, 0)", x -> x.put(bad, 5, 0));
            add(-1, "put(4, " + bad + ", 0)", x -> x.put(4, bad, 0));
            add(-1, "put(4, 5, " + bad + ") of a key that is there", x -> x.put(4, 5, bad));
            add(-1, "put(4, 6, " + bad + ") of a new key", x -> x.put(4, 6, bad));
            add(-1, "find(" + bad + ", 4, 5)", x -> x.find(bad, 4, 5));
            add(-1, "find(0, " + bad + ", 5)", x -> x.find(0, bad, 5));
            add(-1, "find(0, 4, " + bad + ")", x -> x.find(0, 4, bad));
            add(0, "register(" + bad + ", 5)", x -> x.register(bad, 5) ? 1 : 0);
            add(0, "register(0, " + bad + ")", x -> x.register(0, bad) ? 1 : 0);
            add(0, "next(" + bad + ", 5)", x -> x.next(bad, 5) ? 1 : 0);
            add(0, "next(5, " + bad + ")", x -> x.next(5, bad) ? 1 : 0);
            add(-1, "same(" + bad + ", 0)", x -> x.same(bad, 0));
            add(-1, "same(0, " + bad + ")", x -> x.same(0, bad));
            for (int what = 0; what < 3; what++) {
                int asked = what;
                add(-1, "look(" + bad + ", " + what + ")", x -> x.look(bad, asked));
            }
            wrongRegistersOfMake(bad);
        }
    }

    private void wrongRegistersOfMake(int bad) {
        for (int kind = 0; kind < 5; kind++) {
            int made = kind;
            add(-1, "make(" + bad + ", " + kind + ", 5, 7, 1)", x -> x.make(bad, made, 5, 7, 1));
            if (kind != 4) {
                add(-1, "make(0, " + kind + ", " + bad + ", 7, 1)", x -> x.make(0, made, bad, 7, 1));
            }
            if (kind == 0 || kind == 3) {
                add(-1, "make(0, " + kind + ", 5, " + bad + ", 1)", x -> x.make(0, made, 5, bad, 1));
            }
        }
    }

    private void wrongKindsAndLengths() {
        for (int kind : NO_KIND) {
            add(-1, "make(0, " + kind + ", 5, 7, 1)", x -> x.make(0, kind, 5, 7, 1));
        }
        for (int n : NO_LENGTH) {
            add(-1, "make(0, 1, 5, 7, " + n + ")", x -> x.make(0, 1, 5, 7, n));
        }
    }

    private void wrongValues() {
        for (int kind = 0; kind < 5; kind++) {
            int s = kind;
            for (int k : new int[] {-1, VALUES[kind], 100, Integer.MIN_VALUE, Integer.MAX_VALUE}) {
                add(0, "get(6, " + s + ", " + k + ")", x -> x.get(6, s, k) ? 1 : 0);
                add(0, "set(" + s + ", " + k + ", 6)", x -> x.set(s, k, 6) ? 1 : 0);
            }
        }
        for (int k = 0; k < 2; k++) {
            int at = k;
            add(0, "set(3, " + k + ", 6)", x -> x.set(3, at, 6) ? 1 : 0);
            add(0, "set(4, " + k + ", 6)", x -> x.set(4, at, 6) ? 1 : 0);
            add(0, "get(6, 4, " + k + ")", x -> x.get(6, 4, at) ? 1 : 0);
        }
        add(0, "set(2, 0, 6)", x -> x.set(2, 0, 6) ? 1 : 0);
        add(0, "find(0, 4, 6) of no key that is there", x -> x.find(0, 4, 6));
    }

    private void wrongObjects() {
        for (int s : new int[] {5, 6}) {
            add(0, "get(0, " + s + ", 0)", x -> x.get(0, s, 0) ? 1 : 0);
            add(0, "set(" + s + ", 0, 0)", x -> x.set(s, 0, 0) ? 1 : 0);
            add(0, "register(" + s + ", 0)", x -> x.register(s, 0) ? 1 : 0);
        }
        for (int s : new int[] {0, 1, 2, 3, 5, 6}) {
            add(-1, "put(" + s + ", 5, 7)", x -> x.put(s, 5, 7));
            add(-1, "find(0, " + s + ", 5)", x -> x.find(0, s, 5));
        }
    }

    private void wrongWhats() {
        for (int what : new int[] {-1, 3, 4, Integer.MIN_VALUE, Integer.MAX_VALUE}) {
            for (int r = 0; r < 8; r++) {
                int s = r;
                add(-1, "look(" + s + ", " + what + ")", x -> x.look(s, what));
            }
        }
        for (int what : new int[] {-1, 6, 7, Integer.MIN_VALUE, Integer.MAX_VALUE}) {
            add(-1, "count(" + what + ")", x -> x.count(what));
        }
    }

    private void nextIntoOne() {
        for (int r = 0; r < 8; r++) {
            int both = r;
            add(0, "next(" + r + ", " + r + ")", x -> x.next(both, both) ? 1 : 0);
        }
    }

    private void nothingThere() {
        add(0, "next(0, 1) of an empty queue", x -> x.next(0, 1) ? 1 : 0);
        add(0, "get(0, 1, 0) of NOTHING", x -> x.get(0, 1, 0) ? 1 : 0);
        add(0, "set(0, 0, 1) of NOTHING", x -> x.set(0, 0, 1) ? 1 : 0);
        add(0, "register(0, 1) of NOTHING", x -> x.register(0, 1) ? 1 : 0);
        add(-1, "put(0, 1, 2) in NOTHING", x -> x.put(0, 1, 2));
        add(-1, "find(0, 1, 2) in NOTHING", x -> x.find(0, 1, 2));
    }

    private void tooManyRegistrations() {
        add(0, "register(0, 5) beyond 60", x -> x.register(0, 5) ? 1 : 0);
        add(0, "register(0, 0) beyond 60", x -> x.register(0, 0) ? 1 : 0);
    }

    private void noRoom() {
        add(0, "make(0, 1, 5, 5, 100)", x -> x.make(0, 1, 5, 5, 100));
        add(0, "make(6, 1, 5, 5, 10)", x -> x.make(6, 1, 5, 5, 10));
        for (int kind : new int[] {0, 3}) {
            add(0, "make(0, " + kind + ", 5, 7, 0)", x -> x.make(0, kind, 5, 7, 0));
        }
        add(0, "put(4, 6, 5)", x -> x.put(4, 6, 5));
        add(0, "put(4, 0, 1)", x -> x.put(4, 0, 1));
    }

    private void compareAll(Making making, boolean collects) {
        for (Refused one : refused) {
            VisibleHeap called = making.make();
            VisibleHeap other = making.make();
            due.is(one.name(), one.call().applyAsInt(called), one.answer());
            if (collects) {
                other.collect();
            }
            due.yes("all is as before " + one.name(), seen(called).equals(seen(other)));
        }
    }

    /** All that can be seen; register 7 holds a number, and is used to look at the others' values when that is noted. */
    private static List<Integer> seen(VisibleHeap x) {
        List<Integer> seen = new ArrayList<>();
        for (int what = 0; what < 6; what++) {
            seen.add(x.count(what));
        }
        for (int r = 0; r < 8; r++) {
            see(seen, x, r);
        }
        for (int r = 0; r < 7; r++) {
            for (int k = 0; x.get(7, r, k); k++) {
                see(seen, x, 7);
            }
            for (int t = 0; x.look(r, 0) == 4 && t < 7; t++) {
                seen.add(x.find(7, r, t));
                see(seen, x, 7);
            }
        }
        seeQueue(seen, x);
        for (int r = 0; r < 8; r++) {
            x.copy(r, -1);
        }
        seen.add(x.collect());
        seeQueue(seen, x);
        return seen;
    }

    private static void see(List<Integer> seen, VisibleHeap x, int r) {
        for (int what = 0; what < 3; what++) {
            seen.add(x.look(r, what));
        }
    }

    /** Few calls for each, for a queue of 60 must be seen before the heap's 512th call. */
    private static void seeQueue(List<Integer> seen, VisibleHeap x) {
        while (x.next(6, 7)) {
            seen.add(x.look(6, 1));
            seen.add(x.look(7, 0));
            seen.add(x.look(7, 1));
        }
    }
}
