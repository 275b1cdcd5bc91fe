import java.lang.reflect.Constructor;
import java.lang.reflect.Field;
import java.lang.reflect.Method;
import java.lang.reflect.Modifier;
import java.util.Arrays;
import java.util.Set;
import java.util.TreeSet;

/** The public face, member by member, and nothing beside it that is not private. */
public final class FaceTest {
    private static final String FACE =
        "int feed(int,int,int,int,int);int valley(int);int law(int);int work(int);int book(int);int fault();int undo();"
        + "int told(int);int house(int,int);int debt(int,int);int would(int,int,int,int,int,int,int,int,int);"
        + "boolean can(int);int ahead(int,int);int lasts(int);int plan(int,int);int most(int);int ring(int);"
        + "int tangle(int);int ground(int);int ask(int);int mix(int);int creditors(int,int,int);"
        + "long wheel(int,int,int,int);int share(int,int,int);int whitest(int);int hungriest(int);int net(int);"
        + "int even(int);int honest();int kind(int);int oldest(int);int thirst();int year(int,int,int,int);"
        + "int span(int,int,int,int,int,int);int image();int restore();int status(int);int count(int)";

    public static void main(String[] args) {
        Set<String> want = new TreeSet<>(Arrays.asList(FACE.split(";")));
        Set<String> got = new TreeSet<>();
        for (Method m : DebtMiller.class.getDeclaredMethods()) {
            if (Modifier.isPrivate(m.getModifiers())) {
                continue;
            }
            if (!Modifier.isPublic(m.getModifiers()) || Modifier.isStatic(m.getModifiers())) {
                Check.tell("not of the face: " + m);
            }
            StringBuilder line = new StringBuilder(m.getReturnType() + " " + m.getName() + "(");
            for (Class<?> type : m.getParameterTypes()) {
                line.append(line.charAt(line.length() - 1) == '(' ? "" : ",").append(type);
            }
            got.add(line.append(")").toString());
        }
        if (!got.equals(want)) {
            Check.tell("the methods are " + got + ", due are " + want);
        }
        for (Field f : DebtMiller.class.getDeclaredFields()) {
            if (!Modifier.isPrivate(f.getModifiers()) && !f.getName().equals("NONE")) {
                Check.tell("not of the face: " + f);
            }
        }
        for (Constructor<?> c : DebtMiller.class.getDeclaredConstructors()) {
            if (!Modifier.isPublic(c.getModifiers()) || c.getParameterCount() != 0) {
                Check.tell("not of the face: " + c);
            }
        }
        Check.due("final", Modifier.isFinal(DebtMiller.class.getModifiers()), true);
        Check.due("NONE", DebtMiller.NONE, -1);
        Check.end();
    }
}
