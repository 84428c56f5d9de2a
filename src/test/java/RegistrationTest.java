/** Promises 9 and 10. */
public final class RegistrationTest {
    private static final int[] NO_REGISTER = {-1, 8, Integer.MIN_VALUE, Integer.MAX_VALUE};

    public static void main(String[] args) {
        Due due = new Due("promises 9, 10, register, next");
        order(due);
        limit(due);
        limitWithTheQueue(due);
        anew(due);
        refusals(due);
        due.end();
    }

    private static void order(Due due) {
        VisibleHeap x = new VisibleHeap(100);
        x.make(0, 0, 7, 7, 0);
        x.make(1, 0, 7, 7, 0);
        int[] objects = {0, 1, 0, 1, 0};
        for (int i = 0; i < objects.length; i++) {
            x.number(2, i);
            due.yes("register " + i, x.register(objects[i], 2));
        }
        due.is("registrations", x.count(4), 5);
        due.no("none in the queue", x.next(3, 4));
        due.is("look(0, 1)", x.look(0, 1), 1);
        due.is("look(1, 1)", x.look(1, 1), 2);
        x.copy(1, -1);
        due.is("the queue holds what died", x.collect(), 0);
        due.is("queue", x.count(3), 2);
        due.is("registrations", x.count(4), 3);
        x.copy(0, -1);
        x.collect();
        due.is("queue", x.count(3), 5);
        int[] identities = {2, 2, 1, 1, 1};
        int[] told = {1, 3, 0, 2, 4};
        for (int i = 0; i < told.length; i++) {
            due.yes("next " + i, x.next(3, 4));
            due.is("object " + i, x.look(3, 1), identities[i]);
            due.is("what it was registered with " + i, x.look(4, 1), told[i]);
            due.is("queue after " + i, x.count(3), 4 - i);
        }
        due.no("the queue is empty", x.next(3, 4));
        due.is("false changes nothing", x.look(4, 1), 4);
        x.copy(3, -1);
        due.is("without the queue they are gone", x.collect(), 8);
    }

    private static void limit(Due due) {
        VisibleHeap x = new VisibleHeap(100);
        x.make(0, 0, 7, 7, 0);
        for (int i = 0; i < 60; i++) {
            due.yes("register " + i, x.register(0, 0));
        }
        due.no("register 60", x.register(0, 0));
        due.is("registrations", x.count(4), 60);
        due.is("cells for registrations", x.count(0), 4);
    }

    private static void limitWithTheQueue(Due due) {
        VisibleHeap x = new VisibleHeap(100);
        x.make(0, 0, 7, 7, 0);
        for (int i = 0; i < 20; i++) {
            x.register(0, 7);
        }
        x.make(0, 0, 7, 7, 0);
        x.collect();
        due.is("queue", x.count(3), 20);
        for (int i = 0; i < 40; i++) {
            due.yes("register " + i, x.register(0, 7));
        }
        due.no("20 and 40 are 60", x.register(0, 7));
        due.yes("one leaves the queue", x.next(1, 2));
        due.yes("room for one", x.register(0, 7));
        due.no("and for no more", x.register(0, 7));
        due.is("queue", x.count(3), 19);
        due.is("registrations", x.count(4), 41);
    }

    /** An object that came out of the queue may be registered and die again. */
    private static void anew(Due due) {
        VisibleHeap x = new VisibleHeap(100);
        x.make(0, 0, 7, 7, 0);
        due.yes("register with itself", x.register(0, 0));
        x.copy(0, -1);
        due.is("a registration with itself does not hold", x.collect(), 0);
        due.is("queue", x.count(3), 1);
        due.yes("next", x.next(0, 1));
        due.is("both the same", x.same(0, 1), 1);
        due.is("registrations", x.count(4), 0);
        x.number(2, 6);
        due.yes("register anew", x.register(0, 2));
        x.copy(0, -1);
        x.copy(1, -1);
        x.collect();
        due.yes("next anew", x.next(0, 1));
        due.is("kind", x.look(0, 0), 0);
        due.is("told", x.look(1, 1), 6);
    }

    private static void refusals(Due due) {
        VisibleHeap x = new VisibleHeap(100);
        x.make(0, 0, 7, 7, 0);
        x.number(1, 1);
        due.no("register of a number", x.register(1, 0));
        due.no("register of nothing", x.register(2, 0));
        for (int bad : NO_REGISTER) {
            due.no("register(" + bad + ", 0)", x.register(bad, 0));
            due.no("register(0, " + bad + ")", x.register(0, bad));
        }
        due.is("no registration", x.count(4), 0);
        for (int kind = 0; kind < 5; kind++) {
            x.make(3, kind, 7, 7, 0);
            due.yes("register of kind " + kind, x.register(3, 7));
        }
        x.copy(3, -1);
        x.collect();
        for (int bad : NO_REGISTER) {
            due.no("next(" + bad + ", 0)", x.next(bad, 0));
            due.no("next(0, " + bad + ")", x.next(0, bad));
        }
        for (int r = 0; r < 8; r++) {
            due.no("next into one register " + r, x.next(r, r));
        }
        due.is("queue unchanged", x.count(3), 5);
        due.is("register 0 unchanged", x.look(0, 1), 1);
        for (int kind = 0; kind < 5; kind++) {
            due.yes("next", x.next(7, 0));
            due.is("kind", x.look(7, 0), kind);
            due.is("told", x.look(0, 0), 6);
        }
    }
}
