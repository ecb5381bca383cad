import java.lang.reflect.Constructor;
import java.lang.reflect.Field;
import java.lang.reflect.Method;
import java.lang.reflect.Modifier;
import java.util.Set;
import java.util.TreeSet;

/** The public face: what the document lists, and beside it only private members. */
public final class SharedLogFaceTest {
    private static final String[] FACE = {
        "int append(int,int)", "int fill(int,int)", "int read(int,int)", "int replay(int,int)",
        "int reform(int,int)", "int step(int)", "int refresh(int)", "boolean setUp(int,boolean)",
        "void loseSequencer()", "int busy(int)", "int outcome(int)", "int number(int)",
        "int epochOf(int)", "int membersOf(int)", "int tail()", "int unitEpoch(int)",
        "int cell(int,int)"
    };

    public static void main(String[] args) {
        Checks checks = new Checks();
        checks.part("face");
        checks.due("public class", Modifier.isPublic(SharedLog.class.getModifiers()), true);
        checks.due("final class", Modifier.isFinal(SharedLog.class.getModifiers()), true);

        Set<String> visible = new TreeSet<>();
        for (Method m : SharedLog.class.getDeclaredMethods()) {
            if (!Modifier.isPrivate(m.getModifiers())) {
                checks.due(m.getName() + " is public", Modifier.isPublic(m.getModifiers()), true);
                checks.due(m.getName() + " is static", Modifier.isStatic(m.getModifiers()), false);
                visible.add(signature(m));
            }
        }
        checks.due("visible methods", visible.toString(), new TreeSet<>(Set.of(FACE)).toString());

        for (Field f : SharedLog.class.getDeclaredFields()) {
            checks.due(f.getName() + " is private", Modifier.isPrivate(f.getModifiers()), true);
        }
        Constructor<?>[] constructors = SharedLog.class.getDeclaredConstructors();
        checks.due("constructors", constructors.length, 1);
        checks.due("public constructor", Modifier.isPublic(constructors[0].getModifiers()), true);
        checks.due("its parameters", constructors[0].getParameterCount(), 0);
        checks.exitWithResult();
    }

    private static String signature(Method m) {
        StringBuilder text = new StringBuilder(m.getReturnType().getName());
        text.append(' ').append(m.getName()).append('(');
        Class<?>[] types = m.getParameterTypes();
        for (int i = 0; i < types.length; i++) {
            text.append(i == 0 ? "" : ",").append(types[i].getName());
        }
        return text.append(')').toString();
    }
}
