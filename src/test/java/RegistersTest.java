/** Promises 2, 3 and 13. */
public final class RegistersTest {
    private static final int[] NO_REGISTER = {-1, -2, 8, 9, Integer.MIN_VALUE, Integer.MAX_VALUE};

    public static void main(String[] args) {
        Due due = new Due("promises 2, 3, 13, number, copy, same");
        numbers(due);
        copies(due);
        sameness(due);
        due.end();
    }

    private static void numbers(Due due) {
        VisibleHeap x = new VisibleHeap(20);
        for (int r = 0; r < 8; r++) {
            due.yes("number(" + r + ")", x.number(r, 10 * r - 3));
        }
        for (int r = 0; r < 8; r++) {
            due.is("look(" + r + ", 0)", x.look(r, 0), 5);
            due.is("look(" + r + ", 1)", x.look(r, 1), 10 * r - 3);
        }
        due.yes("number(0, least)", x.number(0, Integer.MIN_VALUE));
        due.yes("number(1, most)", x.number(1, Integer.MAX_VALUE));
        due.is("least", x.look(0, 1), Integer.MIN_VALUE);
        due.is("most", x.look(1, 1), Integer.MAX_VALUE);
        for (int r : NO_REGISTER) {
            due.no("number(" + r + ", 1)", x.number(r, 1));
        }
        due.is("numbers need no cells", x.count(0), 0);
    }

    private static void copies(Due due) {
        VisibleHeap x = new VisibleHeap(20);
        x.number(0, 7);
        x.make(1, 0, 0, 0, 0);
        due.yes("copy(7, 1)", x.copy(7, 1));
        due.is("an object is copied as itself", x.same(7, 1), 1);
        due.is("no cells for a copy", x.count(0), 4);
        due.yes("copy(1, 0)", x.copy(1, 0));
        due.is("look(1, 1)", x.look(1, 1), 7);
        due.yes("copy(1, 1)", x.copy(1, 1));
        due.is("look(1, 1) after itself", x.look(1, 1), 7);
        due.yes("copy(1, -1)", x.copy(1, -1));
        due.is("look(1, 0)", x.look(1, 0), 6);
        due.yes("copy(0, 1) of nothing", x.copy(0, 1));
        due.is("look(0, 0)", x.look(0, 0), 6);
        for (int r : NO_REGISTER) {
            due.no("copy(" + r + ", 0)", x.copy(r, 0));
            due.no("copy(" + r + ", -1)", x.copy(r, -1));
            if (r != -1) {
                due.no("copy(7, " + r + ")", x.copy(7, r));
            }
        }
        due.is("a refused copy changes nothing", x.look(7, 0), 0);
    }

    private static void sameness(Due due) {
        VisibleHeap x = new VisibleHeap(40);
        due.is("nothing and nothing", x.same(0, 1), 1);
        x.number(0, 1000);
        due.is("number and nothing", x.same(0, 1), 0);
        due.is("nothing and number", x.same(1, 0), 0);
        x.number(1, 1000);
        due.is("like numbers", x.same(0, 1), 1);
        x.number(1, 1001);
        due.is("other numbers", x.same(0, 1), 0);
        x.make(2, 0, 0, 0, 0);
        x.make(3, 0, 0, 0, 0);
        x.copy(4, 2);
        due.is("two objects with the same values", x.same(2, 3), 0);
        due.is("one object", x.same(2, 4), 1);
        due.is("a register with itself", x.same(2, 2), 1);
        due.is("object and nothing", x.same(2, 7), 0);
        x.number(5, 1);
        due.is("look(2, 1)", x.look(2, 1), 1);
        due.is("an object and its number of identity", x.same(2, 5), 0);
        for (int r : NO_REGISTER) {
            due.is("same(" + r + ", 0)", x.same(r, 0), -1);
            due.is("same(0, " + r + ")", x.same(0, r), -1);
            due.is("same(" + r + ", itself)", x.same(r, r), -1);
        }
    }
}
