/** Promises 5 and 6. */
public final class ValuesTest {
    private static final int[] NO_REGISTER = {-1, 8, Integer.MIN_VALUE, Integer.MAX_VALUE};

    public static void main(String[] args) {
        Due due = new Due("promises 5, 6, get, set");
        edges(due);
        setting(due);
        refusals(due);
        due.end();
    }

    /** Registers 0 .. 4 hold an object of each kind, the vector of 3; register 5 the number 50. */
    private static VisibleHeap oneOfEach() {
        VisibleHeap x = new VisibleHeap(100);
        x.number(5, 50);
        for (int kind = 0; kind < 5; kind++) {
            x.make(kind, kind, 5, 5, 3);
        }
        return x;
    }

    private static void edges(Due due) {
        int[] lengths = {2, 3, 1, 2, 0};
        VisibleHeap x = oneOfEach();
        for (int kind = 0; kind < 5; kind++) {
            for (int k = -2; k < 5; k++) {
                x.number(6, -7);
                boolean there = k >= 0 && k < lengths[kind];
                due.is("get(6, " + kind + ", " + k + ")", x.get(6, kind, k) ? 1 : 0, there ? 1 : 0);
                due.is("then 6 holds", x.look(6, 1), there ? 50 : -7);
            }
            due.no("get at the most", x.get(6, kind, Integer.MAX_VALUE));
            due.no("get at the least", x.get(6, kind, Integer.MIN_VALUE));
        }
        x.put(4, 5, 5);
        due.no("a table's entry is no value k", x.get(6, 4, 0));
        x.make(1, 1, 5, 5, 0);
        due.no("a vector of none", x.get(6, 1, 0));
        x.make(1, 1, 5, 5, 60);
        due.yes("the last of 60", x.get(6, 1, 59));
        due.no("behind the last of 60", x.get(6, 1, 60));
        due.yes("r may be s", x.get(1, 1, 0));
        due.is("then it holds the value", x.look(1, 1), 50);
    }

    private static void setting(Due due) {
        VisibleHeap x = oneOfEach();
        x.number(7, 77);
        due.yes("set(0, 1, 7)", x.set(0, 1, 7));
        x.get(6, 0, 1);
        due.is("value 1", x.look(6, 1), 77);
        x.get(6, 0, 0);
        due.is("value 0 as before", x.look(6, 1), 50);
        due.yes("set(1, 2, 7)", x.set(1, 2, 7));
        x.get(6, 1, 2);
        due.is("value 2", x.look(6, 1), 77);
        x.get(6, 1, 1);
        due.is("value 1 as before", x.look(6, 1), 50);
        due.yes("an object may hold itself", x.set(0, 0, 0));
        x.get(6, 0, 0);
        due.is("itself", x.same(6, 0), 1);
        x.copy(7, -1);
        due.yes("nothing may be set", x.set(0, 0, 7));
        x.get(6, 0, 0);
        due.is("nothing", x.look(6, 0), 6);
        due.is("set needs no cells", x.count(0), 20);
    }

    private static void refusals(Due due) {
        VisibleHeap x = oneOfEach();
        x.number(7, 77);
        for (int bad : NO_REGISTER) {
            due.no("get(" + bad + ", 0, 0)", x.get(bad, 0, 0));
            due.no("get(6, " + bad + ", 0)", x.get(6, bad, 0));
            due.no("set(" + bad + ", 0, 7)", x.set(bad, 0, 7));
            due.no("set(0, 0, " + bad + ")", x.set(0, 0, bad));
            due.no("set(0, " + (bad == 8 ? 2 : bad) + ", 7)", x.set(0, bad == 8 ? 2 : bad, 7));
        }
        due.no("set behind the vector", x.set(1, 3, 7));
        due.no("set of a weak one", x.set(2, 0, 7));
        due.no("set of an ephemeron's key", x.set(3, 0, 7));
        due.no("set of an ephemeron's value", x.set(3, 1, 7));
        due.no("set of a table", x.set(4, 0, 7));
        due.no("set of a number", x.set(5, 0, 7));
        due.no("set of nothing", x.set(6, 0, 7));
        due.no("get of a number", x.get(6, 5, 0));
        due.no("get of nothing", x.get(6, 6, 0));
        int[] lengths = {2, 3, 1, 2};
        for (int kind = 0; kind < 4; kind++) {
            for (int k = 0; k < lengths[kind]; k++) {
                x.get(6, kind, k);
                due.is("unchanged " + kind + ", " + k, x.look(6, 1), 50);
            }
        }
    }
}
