import java.lang.reflect.Constructor;
import java.lang.reflect.Field;
import java.lang.reflect.Method;
import java.lang.reflect.Modifier;
import java.util.Set;
import java.util.TreeSet;

/** The public face: what the document names, and no other member that is not private. */
final class FaceTest {
    private static final String[] FACE = {
        "value 1", "put 4", "clear 0", "registers 2", "memory 2", "live 1", "inWay 1", "weight 1", "home 1",
        "order 1", "count 1", "item 3", "run 2", "made 1", "said 1", "cell 1", "check 0"};

    private static final Due DUE = new Due("FaceTest");

    public static void main(String[] args) {
        DUE.is("NONE", RegisterHouse.NONE, -1);
        DUE.is("public and final", RegisterHouse.class.getModifiers() & (Modifier.PUBLIC | Modifier.FINAL),
            Modifier.PUBLIC | Modifier.FINAL);
        methods();
        constructors();
        fields();
        DUE.end();
    }

    private static void methods() {
        Set<String> open = new TreeSet<>();
        Set<String> names = new TreeSet<>();
        for (String row : FACE) {
            names.add(row.substring(0, row.indexOf(' ')));
        }
        for (Method method : RegisterHouse.class.getDeclaredMethods()) {
            if (Modifier.isPrivate(method.getModifiers())) {
                DUE.is("private " + method.getName() + " bears a public name",
                    names.contains(method.getName()) ? 1 : 0, 0);
            } else {
                open.add(method.getName() + " " + method.getParameterCount());
                DUE.is("public int " + method.getName(),
                    Modifier.isPublic(method.getModifiers()) && method.getReturnType() == int.class ? 1 : 0, 1);
            }
        }
        DUE.is("methods " + open, open.equals(Set.of(FACE)) ? 1 : 0, 1);
    }

    private static void constructors() {
        Constructor<?>[] all = RegisterHouse.class.getDeclaredConstructors();
        DUE.is("constructors", all.length, 1);
        DUE.is("constructor's parameters", all[0].getParameterCount(), 0);
        DUE.is("constructor is public", Modifier.isPublic(all[0].getModifiers()) ? 1 : 0, 1);
    }

    private static void fields() {
        for (Field field : RegisterHouse.class.getDeclaredFields()) {
            boolean open = !Modifier.isPrivate(field.getModifiers());
            DUE.is("field " + field.getName() + " is open", open ? 1 : 0, field.getName().equals("NONE") ? 1 : 0);
            if (Modifier.isStatic(field.getModifiers())) {
                DUE.is("static " + field.getName() + " is final",
                    Modifier.isFinal(field.getModifiers()) ? 1 : 0, 1);
            }
        }
    }
}
