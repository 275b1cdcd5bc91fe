import java.io.IOException;
import java.lang.reflect.Constructor;
import java.lang.reflect.Field;
import java.lang.reflect.Method;
import java.lang.reflect.Modifier;
import java.nio.file.Files;
import java.nio.file.Path;
import java.util.Set;
import java.util.TreeSet;

/** The public face, member by member, and nothing beside it that is not private. */
public final class FaceTest {
    /** The face as the document writes it. */
    private static final String WRITTEN = """
        public static final int NONE = -1;
        public DebtMiller();
        public int feed(int a, int b, int c, int d, int e);
        public int valley(int n) throws IllegalArgumentException;
        public int law(int n) throws IllegalArgumentException;
        public int work(int n) throws IllegalArgumentException;
        public int book(int n) throws IllegalArgumentException;
        public int fault();
        public int undo();
        public int told(int what) throws IllegalArgumentException;
        public int house(int house, int what) throws NoSuchElementException, IllegalArgumentException;
        public int debt(int debt, int what) throws NoSuchElementException, IllegalArgumentException;
        public int would(int weight, int kind, int age, int pride, int mouths, int owed, int others, int hunger, int debt) throws IllegalArgumentException;
        public boolean can(int debt) throws NoSuchElementException;
        public int ahead(int n, int what) throws IllegalArgumentException;
        public int lasts(int house) throws NoSuchElementException;
        public int plan(int house, int n) throws NoSuchElementException, IllegalArgumentException;
        public int most(int what) throws IllegalArgumentException;
        public int ring(int house) throws NoSuchElementException;
        public int tangle(int house) throws NoSuchElementException;
        public int ground(int what) throws IllegalArgumentException;
        public int ask(int what) throws IllegalArgumentException;
        public int mix(int n) throws IllegalArgumentException;
        public int creditors(int v, int w, int what) throws IllegalArgumentException;
        public long wheel(int n, int k, int q, int part) throws IllegalArgumentException;
        public int share(int house, int houses, int n) throws NoSuchElementException, IllegalArgumentException;
        public int whitest(int what) throws IllegalArgumentException;
        public int hungriest(int what) throws IllegalArgumentException;
        public int net(int house) throws NoSuchElementException;
        public int even(int what) throws IllegalArgumentException;
        public int honest();
        public int kind(int kind) throws IllegalArgumentException;
        public int oldest(int what) throws IllegalArgumentException;
        public int thirst();
        public int year(int seed, int days, int q, int what) throws IllegalArgumentException;
        public int span(int seed, int many, int days, int q, int what, int house) throws IllegalArgumentException;
        public int image();
        public int restore();
        public int status(int what);
        public int count(int what);
        """;

    public static void main(String[] args) throws IOException {
        membersAreThere();
        headsAreAsWritten();
        Check.end();
    }

    /** Each line of the document's face stands in the class as it is: names of parameters and what is thrown, too. */
    private static void headsAreAsWritten() throws IOException {
        String code = inOneLine(Files.readString(Path.of("src/main/java/DebtMiller.java")));
        int heads = 0;
        for (String line : WRITTEN.split("\n")) {
            heads++;
            String head = line.replaceAll(";$", "");
            if (!code.contains(" " + head + (head.contains("(") ? " {" : ";"))) {
                Check.tell("the class has no " + head);
            }
        }
        Check.due("members that the document writes", heads, 40);
    }

    private static String inOneLine(String code) {
        return code.replaceAll("\\s+", " ");
    }

    private static void membersAreThere() {
        Set<String> want = new TreeSet<>();
        for (String line : WRITTEN.split("\n")) {
            if (line.matches("public \\w+ \\w+\\(.*")) {
                want.add(line.replaceAll("^public |\\) throws .*|\\);| \\w+(?=[,)])", "").replaceAll(", ", ",") + ")");
            }
        }
        Set<String> got = new TreeSet<>();
        for (Method m : DebtMiller.class.getDeclaredMethods()) {
            if (Modifier.isPrivate(m.getModifiers())) {
                continue;
            }
            if (!Modifier.isPublic(m.getModifiers()) || Modifier.isStatic(m.getModifiers())) {
                Check.tell("not of the face: " + m);
            }
            StringBuilder line = new StringBuilder(m.getReturnType() + " " + m.getName() + "(");
            for (Class<?> type : m.getParameterTypes()) {
                line.append(line.charAt(line.length() - 1) == '(' ? "" : ",").append(type);
            }
            got.add(line.append(")").toString());
        }
        if (!got.equals(want)) {
            Check.tell("the methods are " + got + ", due are " + want);
        }
        for (Field f : DebtMiller.class.getDeclaredFields()) {
            if (!Modifier.isPrivate(f.getModifiers()) && !f.getName().equals("NONE")) {
                Check.tell("not of the face: " + f);
            }
        }
        for (Constructor<?> c : DebtMiller.class.getDeclaredConstructors()) {
            if (!Modifier.isPublic(c.getModifiers()) || c.getParameterCount() != 0) {
                Check.tell("not of the face: " + c);
            }
        }
        Check.due("final", Modifier.isFinal(DebtMiller.class.getModifiers()), true);
        Check.due("NONE", DebtMiller.NONE, -1);
    }
}
