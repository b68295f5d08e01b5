import java.lang.reflect.Constructor;
import java.lang.reflect.Field;
import java.lang.reflect.Method;
import java.lang.reflect.Modifier;
import java.util.Set;
import java.util.StringJoiner;
import java.util.TreeSet;

/** The public face: what the document shows, no more and no less. */
final class FaceTest {
    private static final Due DUE = new Due("FaceTest");

    public static void main(String[] args) throws IllegalAccessException {
        DUE.edge("The public face", "public static final int NONE = -1;");
        DUE.is("NONE", RegisterHouse.NONE, -1);
        asShown();
        privateNames();
        classesInside();
        DUE.end();
    }

    private static void asShown() throws IllegalAccessException {
        Set<String> shown = shown();
        Set<String> there = there();
        // the class itself, a constant, a constructor, seventeen methods
        DUE.is("rows that are shown", shown.size(), 20);
        for (String row : shown) {
            DUE.is("the class has " + row, there.contains(row) ? 1 : 0, 1);
        }
        for (String row : there) {
            DUE.is("the document shows " + row, shown.contains(row) ? 1 : 0, 1);
        }
    }

    /** The document's rows, without the names of parameters, which a compiled class does not keep. */
    private static Set<String> shown() {
        Set<String> rows = new TreeSet<>();
        for (String line : new Document(Document.PROMISES).block("The public face", "java").split("\n")) {
            String row = line.trim().replaceAll("int [a-z]+([,)])", "int$1");
            if (!row.equals("}")) {
                rows.add(row);
            }
        }
        return rows;
    }

    /** The rows that the class would be shown with: all its members that are not private. */
    private static Set<String> there() throws IllegalAccessException {
        Class<?> face = RegisterHouse.class;
        Set<String> rows = new TreeSet<>();
        rows.add(Modifier.toString(face.getModifiers()) + " class " + face.getName() + " {");
        for (Field field : face.getDeclaredFields()) {
            if (isOpen(field.getModifiers())) {
                rows.add(Modifier.toString(field.getModifiers()) + " " + field.getType() + " " + field.getName()
                    + " = " + field.get(null) + ";");
            }
        }
        for (Constructor<?> constructor : face.getDeclaredConstructors()) {
            if (isOpen(constructor.getModifiers())) {
                rows.add(Modifier.toString(constructor.getModifiers()) + " " + face.getName()
                    + list(constructor.getParameterTypes()) + ";");
            }
        }
        for (Method method : face.getDeclaredMethods()) {
            if (isOpen(method.getModifiers())) {
                rows.add(Modifier.toString(method.getModifiers()) + " " + method.getReturnType() + " "
                    + method.getName() + list(method.getParameterTypes()) + ";");
            }
        }
        return rows;
    }

    private static String list(Class<?>[] types) {
        StringJoiner list = new StringJoiner(", ", "(", ")");
        for (Class<?> type : types) {
            list.add(type.getName());
        }
        return list.toString();
    }

    private static boolean isOpen(int modifiers) {
        return !Modifier.isPrivate(modifiers);
    }

    private static void privateNames() {
        Set<String> open = new TreeSet<>();
        for (Method method : RegisterHouse.class.getMethods()) {
            open.add(method.getName());
        }
        for (Method method : RegisterHouse.class.getDeclaredMethods()) {
            if (!isOpen(method.getModifiers())) {
                DUE.is("private " + method.getName() + " bears a public name",
                    open.contains(method.getName()) ? 1 : 0, 0);
            }
        }
    }

    private static void classesInside() {
        int unseen = Modifier.PUBLIC | Modifier.PROTECTED;
        DUE.is("extends Object", RegisterHouse.class.getSuperclass() == Object.class ? 1 : 0, 1);
        DUE.is("implements", RegisterHouse.class.getInterfaces().length, 0);
        for (Class<?> inside : RegisterHouse.class.getDeclaredClasses()) {
            DUE.is(inside.getSimpleName() + " is seen from outside", inside.getModifiers() & unseen, 0);
            DUE.is(inside.getSimpleName() + " is static", Modifier.isStatic(inside.getModifiers()) ? 1 : 0, 1);
        }
    }
}
