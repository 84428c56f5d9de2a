import java.io.IOException;
import java.nio.file.Files;
import java.nio.file.Path;

/** README.md's examples, call by call, so that what it tells of them stays true. */
public final class ReadmeTest {
    private static final int NOTHING = 6;

    private final Due due = new Due("README.md's examples");
    private final VisibleHeap heap = new VisibleHeap(40);
    private int calls = 1;

    public static void main(String[] args) throws IOException {
        ReadmeTest test = new ReadmeTest();
        test.weakReference();
        test.registration();
        test.allAreHere();
        test.due.end();
    }

    private void did(String call, boolean got) {
        calls++;
        due.yes(call, got);
    }

    private void weakReference() {
        did("number(0, 5)", heap.number(0, 5));
        due.is("the number 5", heap.look(0, 1), 5);
        did("make(1, 0, 0, 0, 0)", heap.make(1, 0, 0, 0, 0) == 1);
        due.is("a pair", heap.look(1, 0), 0);
        did("make(2, 2, 1, 0, 0)", heap.make(2, 2, 1, 0, 0) == 1);
        due.is("a weak reference", heap.look(2, 0), 2);
        did("copy(1, -1)", heap.copy(1, -1));
        due.is("NOTHING", heap.look(1, 0), NOTHING);
        did("collect()", heap.collect() == 4);
        did("get(3, 2, 0)", heap.get(3, 2, 0));
        due.is("cleared", heap.look(3, 0), NOTHING);
    }

    private void registration() {
        did("make(1, 0, 0, 0, 0)", heap.make(1, 0, 0, 0, 0) == 1);
        did("register(1, 0)", heap.register(1, 0));
        did("copy(1, -1)", heap.copy(1, -1));
        did("collect()", heap.collect() == 0);
        due.is("the queue holds it", heap.count(3), 1);
        did("next(4, 5)", heap.next(4, 5));
        due.is("the pair", heap.look(4, 0), 0);
        due.is("the number 5", heap.look(5, 1), 5);
    }

    /** An example that is added to README.md alone is missed here. */
    private void allAreHere() throws IOException {
        Path readme = Path.of(System.getProperty("project.root", "."), "README.md");
        int told = 0;
        for (String line : Files.readAllLines(readme)) {
            if (line.startsWith("heap.") || line.startsWith("VisibleHeap heap")) {
                told++;
            }
        }
        due.is("calls in README.md's examples", told, calls);
    }
}
