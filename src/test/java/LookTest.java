/** Promise 12. */
public final class LookTest {
    private static final int[] NONE = {-1, 8, Integer.MIN_VALUE, Integer.MAX_VALUE};

    public static void main(String[] args) {
        Due due = new Due("promise 12, look");
        kindsAndSizes(due);
        identities(due);
        refusals(due);
        due.end();
    }

    private static void kindsAndSizes(Due due) {
        VisibleHeap x = new VisibleHeap(500);
        int[] sizes = {2, 100, 1, 2, 0};
        for (int kind = 0; kind < 5; kind++) {
            x.make(kind, kind, 7, 7, 100);
            due.is("kind " + kind, x.look(kind, 0), kind);
            due.is("size of kind " + kind, x.look(kind, 2), sizes[kind]);
        }
        x.make(1, 1, 7, 7, 0);
        due.is("a vector of none", x.look(1, 2), 0);
        x.put(4, 7, 7);
        x.put(4, 0, 7);
        due.is("a table of two", x.look(4, 2), 2);
        x.number(6, -1);
        due.is("a number", x.look(6, 0), 5);
        due.is("the number -1", x.look(6, 1), -1);
        due.is("size of a number", x.look(6, 2), 0);
        due.is("nothing", x.look(7, 0), 6);
        due.is("number of nothing", x.look(7, 1), 0);
        due.is("size of nothing", x.look(7, 2), 0);
        due.is("none of it gave a number of identity", x.count(5), 0);
    }

    private static void identities(Due due) {
        VisibleHeap x = new VisibleHeap(500);
        for (int kind = 0; kind < 5; kind++) {
            x.make(kind, kind, 7, 7, 2);
        }
        int[] asked = {3, 0, 3, 4, 1, 0, 2};
        int[] want = {1, 2, 1, 3, 4, 2, 5};
        for (int i = 0; i < asked.length; i++) {
            due.is("identity " + i, x.look(asked[i], 1), want[i]);
        }
        due.is("given", x.count(5), 5);
        x.copy(6, 4);
        x.copy(4, -1);
        x.collect();
        due.is("kept through a collection and a copy", x.look(6, 1), 3);
        x.copy(6, -1);
        x.collect();
        x.make(6, 0, 7, 7, 0);
        due.is("never given again", x.look(6, 1), 6);
        x.register(6, 7);
        x.copy(6, -1);
        x.collect();
        x.next(5, 7);
        due.is("kept through the queue", x.look(5, 1), 6);
    }

    private static void refusals(Due due) {
        VisibleHeap x = new VisibleHeap(500);
        x.make(0, 0, 7, 7, 0);
        for (int bad : NONE) {
            for (int what = -1; what < 4; what++) {
                due.is("look(" + bad + ", " + what + ")", x.look(bad, what), -1);
            }
            due.is("look(0, " + bad + ")", x.look(0, bad), -1);
            due.is("look(7, " + bad + ")", x.look(7, bad), -1);
        }
        due.is("look(0, 3)", x.look(0, 3), -1);
        due.is("none was given", x.count(5), 0);
    }
}
