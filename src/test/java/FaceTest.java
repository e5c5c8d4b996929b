import java.lang.reflect.Constructor;
import java.lang.reflect.Field;
import java.lang.reflect.Member;
import java.lang.reflect.Method;
import java.lang.reflect.Modifier;
import java.util.Map;
import java.util.TreeMap;

/** The public face is the document's, and nothing beside it can be seen. */
public final class FaceTest {
    private static final Due DUE = new Due();

    public static void main(String[] args) {
        DUE.is("public final class", LeftQuills.class.getModifiers(), Modifier.PUBLIC | Modifier.FINAL);
        constants();
        constructors();
        methods();
        classesInside();
        DUE.end();
    }

    private static void constants() {
        DUE.is("NONE", LeftQuills.NONE, -1);
        DUE.is("UNKNOWN", LeftQuills.UNKNOWN, -1000000001);
        DUE.is("OUTSIDE", LeftQuills.OUTSIDE, -1000000002);
        DUE.is("NOT", LeftQuills.NOT, -1000000003);
        DUE.is("FULL", LeftQuills.FULL, -1000000004);
        int seen = 0;
        for (Field field : LeftQuills.class.getDeclaredFields()) {
            seen += isPrivate(field) ? 0 : 1;
        }
        DUE.is("fields that can be seen", seen, 5);
    }

    private static void constructors() {
        Constructor<?>[] all = LeftQuills.class.getDeclaredConstructors();
        DUE.is("constructors", all.length, 1);
        DUE.is("parameters of the constructor", all[0].getParameterCount(), 0);
        DUE.is("the constructor is public", all[0].getModifiers(), Modifier.PUBLIC);
    }

    private static void methods() {
        Map<String, Integer> due = dueMethods();
        int found = 0;
        for (Method method : LeftQuills.class.getDeclaredMethods()) {
            if (method.isSynthetic()) {
                continue;
            }
            Integer parameters = due.get(method.getName());
            if (isPrivate(method)) {
                DUE.is("private " + method.getName() + " bears a public name", parameters == null ? 0 : 1, 0);
                continue;
            }
            found++;
            DUE.is(method.getName() + " is of the face", parameters == null ? 0 : 1, 1);
            DUE.is(method.getName() + " is just public", method.getModifiers(), Modifier.PUBLIC);
            DUE.is(method.getName() + " answers an int", method.getReturnType() == int.class ? 1 : 0, 1);
            DUE.is("parameters of " + method.getName(), method.getParameterCount(), parameters == null ? -1 : parameters);
        }
        DUE.is("public methods", found, due.size());
    }

    static Map<String, Integer> dueMethods() {
        String[] byParameters = {
            "office fault whet undo dearer whose lookAt tear judge",
            "feed told mend broaden drift toWhom seed keep goBack",
            "quill hand dry goodPages life byTurns crooked note",
            "write fastest geese worn"};
        Map<String, Integer> due = new TreeMap<>();
        for (int n = 0; n < byParameters.length; n++) {
            for (String name : byParameters[n].split(" ")) {
                due.put(name, n);
            }
        }
        return due;
    }

    private static void classesInside() {
        for (Class<?> inside : LeftQuills.class.getDeclaredClasses()) {
            int modifiers = inside.getModifiers();
            DUE.is(inside.getName() + " is static", Modifier.isStatic(modifiers) ? 1 : 0, 1);
            DUE.is(inside.getName() + " is hidden", Modifier.isPublic(modifiers) || Modifier.isProtected(modifiers) ? 1 : 0, 0);
        }
    }

    private static boolean isPrivate(Member member) {
        return Modifier.isPrivate(member.getModifiers());
    }
}
