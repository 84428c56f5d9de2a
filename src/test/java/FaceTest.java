import java.io.IOException;
import java.lang.reflect.Constructor;
import java.lang.reflect.Field;
import java.lang.reflect.Method;
import java.lang.reflect.Modifier;
import java.nio.file.Files;
import java.nio.file.Path;
import java.util.Random;
import java.util.Set;
import java.util.TreeSet;
import java.util.regex.Pattern;

/** The public face, words that LANGUAGE.md rules out, and that no call throws, also behind the 512th. */
public final class FaceTest {
    private static final String[] FACE = {
        "boolean number(int,int)", "boolean copy(int,int)", "int make(int,int,int,int,int)",
        "boolean get(int,int,int)", "boolean set(int,int,int)", "int put(int,int,int)", "int find(int,int,int)",
        "boolean register(int,int)", "boolean next(int,int)", "int collect()", "int look(int,int)",
        "int same(int,int)", "int count(int)",
    };
    private static final String[] RULED_OUT = {
        "throw", "throws", "try", "catch", "synchronized", "assert", "import", "package", "var", "System", "Exact",
        "->", "::", "@", "hashCode", "toString", "equals",
    };

    public static void main(String[] args) throws IOException {
        Due due = new Due("the face and the language");
        face(due);
        words(due);
        manyCalls(due);
        due.end();
    }

    private static void face(Due due) {
        Set<String> want = new TreeSet<>(Set.of(FACE));
        Set<String> names = new TreeSet<>();
        for (String line : FACE) {
            names.add(line.substring(line.indexOf(' ') + 1, line.indexOf('(')));
        }
        Set<String> got = new TreeSet<>();
        for (Method method : VisibleHeap.class.getDeclaredMethods()) {
            if (Modifier.isPrivate(method.getModifiers())) {
                due.no("private method with a public one's name: " + method.getName(), names.contains(method.getName()));
            } else {
                got.add(signature(method));
            }
        }
        due.yes("methods " + got, got.equals(want));
        Constructor<?>[] constructors = VisibleHeap.class.getDeclaredConstructors();
        due.is("constructors", constructors.length, 1);
        due.yes("a public one of an int", constructors[0].toString().equals("public VisibleHeap(int)"));
        due.yes("public and final", VisibleHeap.class.getModifiers() == (Modifier.PUBLIC | Modifier.FINAL));
        fields(due, VisibleHeap.class);
        for (Class<?> inside : VisibleHeap.class.getDeclaredClasses()) {
            due.yes(inside + " is static", Modifier.isStatic(inside.getModifiers()));
        }
    }

    private static void fields(Due due, Class<?> where) {
        for (Field field : where.getDeclaredFields()) {
            due.yes(field + " is private", Modifier.isPrivate(field.getModifiers()));
            boolean fixed = !Modifier.isStatic(field.getModifiers()) || Modifier.isFinal(field.getModifiers());
            due.yes(field + " is final if static", fixed);
        }
    }

    private static String signature(Method method) {
        StringBuilder told = new StringBuilder(method.getReturnType().toString());
        told.append(' ').append(method.getName()).append('(');
        String between = "";
        for (Class<?> type : method.getParameterTypes()) {
            told.append(between).append(type);
            between = ",";
        }
        return told.append(')').toString();
    }

    private static void words(Due due) throws IOException {
        Path file = Path.of(System.getProperty("project.root", "."), "src/main/java/VisibleHeap.java");
        String text = Files.readString(file).replaceAll("(?s)/\\*.*?\\*/", " ").replaceAll("//[^\n]*", " ");
        for (String word : RULED_OUT) {
            String sought = word.matches("\\w+") ? "\\b" + word + "\\b" : Pattern.quote(word);
            due.no("the word " + word, Pattern.compile(sought).matcher(text).find());
        }
    }

    private static void manyCalls(Due due) {
        Random random = new Random(1);
        for (int cells : new int[] {20, 100, 5000}) {
            VisibleHeap x = new VisibleHeap(cells);
            for (int i = 0; i < 50000; i++) {
                anyCall(x, random);
            }
            due.yes("cells in use stay within", x.count(0) >= 0 && x.count(0) <= cells);
        }
    }

    private static int any(Random random) {
        return random.nextInt(20) == 0 ? random.nextInt() : random.nextInt(11) - 2;
    }

    private static void anyCall(VisibleHeap x, Random random) {
        int a = any(random);
        int b = any(random);
        int c = any(random);
        switch (random.nextInt(13)) {
            case 0 -> x.number(a, b);
            case 1 -> x.copy(a, b);
            case 2 -> x.make(a, random.nextInt(6), b, c, any(random) * 10);
            case 3 -> x.get(a, b, c);
            case 4 -> x.set(a, b, c);
            case 5 -> x.put(a, b, c);
            case 6 -> x.find(a, b, c);
            case 7 -> x.register(a, b);
            case 8 -> x.next(a, b);
            case 9 -> x.collect();
            case 10 -> x.look(a, b);
            case 11 -> x.same(a, b);
            default -> x.count(a);
        }
    }
}
