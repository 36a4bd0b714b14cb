import java.lang.reflect.Constructor;
import java.lang.reflect.Field;
import java.lang.reflect.Method;
import java.lang.reflect.Modifier;
import java.util.ArrayList;
import java.util.Arrays;
import java.util.Collections;
import java.util.List;
import java.util.NoSuchElementException;

/** The public face is the document's, and nothing else can be seen of the class. */
public final class FaceTest {
    private static final String[] FACE = {
        "int feed(int,int,int,int,int)", "boolean end(int)", "int bridge(int,int,int,int,int,int)",
        "boolean tide()", "int timetable()", "int fault()", "int keeper(int)", "boolean legs(int)",
        "int ship(int,boolean,int)", "int go(int)", "int level(int)", "int barred(int,int)",
        "int about(int,int)", "int told(int,int)", "int through(int,int)", "int keeps(int,int)",
        "int soonest(int,boolean,int)", "int count(int)"
    };

    public static void main(String[] args) {
        Due due = new Due();
        due.is("NONE", RiverBridges.NONE, -1);
        due.sentence("public static final int NONE = -1;");
        due.sentence("public int told(int s, int what) throws NoSuchElementException;");
        due.is("the class is public and final", RiverBridges.class.getModifiers(), Modifier.PUBLIC | Modifier.FINAL);
        List<String> names = new ArrayList<>();
        List<String> seen = new ArrayList<>();
        for (String method : FACE) {
            names.add(method.substring(method.indexOf(' ') + 1, method.indexOf('(')));
        }
        for (Method m : RiverBridges.class.getDeclaredMethods()) {
            if (Modifier.isPrivate(m.getModifiers())) {
                due.is("private " + m.getName() + " bears a public name", names.contains(m.getName()), false);
            } else {
                seen.add(signature(m));
                modifiersAndExceptions(due, m);
            }
        }
        List<String> wanted = new ArrayList<>(Arrays.asList(FACE));
        Collections.sort(wanted);
        Collections.sort(seen);
        due.is("methods " + seen, seen.equals(wanted), true);
        for (Field f : RiverBridges.class.getDeclaredFields()) {
            due.is("field " + f.getName() + " is private", Modifier.isPrivate(f.getModifiers()), !f.getName().equals("NONE"));
            if (f.getName().equals("NONE")) {
                due.is("NONE is public, static, final", f.getModifiers(), Modifier.PUBLIC | Modifier.STATIC | Modifier.FINAL);
                due.is("NONE is an int", f.getType() == int.class, true);
            }
        }
        Constructor<?>[] made = RiverBridges.class.getDeclaredConstructors();
        due.is("constructors", made.length, 1);
        due.is("constructor is public", made[0].getModifiers(), Modifier.PUBLIC);
        due.is("constructor's parameters", made[0].getParameterCount(), 0);
        due.is("constructor's exceptions", made[0].getExceptionTypes().length, 0);
        due.is("classes above it", RiverBridges.class.getSuperclass() == Object.class, true);
        due.is("interfaces", RiverBridges.class.getInterfaces().length, 0);
        due.end();
    }

    /** The document tells of one exception alone: that of told. */
    private static void modifiersAndExceptions(Due due, Method m) {
        due.is(m.getName() + " is public and nothing else", m.getModifiers(), Modifier.PUBLIC);
        List<Class<?>> wanted = m.getName().equals("told") ? List.of(NoSuchElementException.class) : List.of();
        due.is(m.getName() + " throws", Arrays.asList(m.getExceptionTypes()).equals(wanted), true);
    }

    private static String signature(Method m) {
        StringBuilder text = new StringBuilder(m.getReturnType().getName() + " " + m.getName() + "(");
        for (Class<?> type : m.getParameterTypes()) {
            text.append(text.charAt(text.length() - 1) == '(' ? "" : ",").append(type.getName());
        }
        return text.append(")").toString();
    }
}
