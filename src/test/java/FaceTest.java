import java.lang.reflect.Constructor;
import java.lang.reflect.Field;
import java.lang.reflect.Method;
import java.lang.reflect.Modifier;
import java.util.Arrays;
import java.util.List;
import java.util.Set;
import java.util.TreeSet;
import java.util.stream.Collectors;

/** The public face: every member of the document's, and no other. */
final class FaceTest {
    private static final Due DUE = new Due("FaceTest");
    private static final List<String> METHODS = List.of("int feed(int,int,int,int,int)", "boolean end(int)",
        "int rider(int)", "int fence(int)", "int course(int,int)", "boolean clock(int,int)", "boolean out(int,int)",
        "int report(int,int,int,int,int)", "int strike(int)", "boolean as(int)", "int rules()", "int fault(int)",
        "int count(int,int)", "long given(int,int)", "long total(int)", "int isOut(int)", "int against(int,int)",
        "int place(int)", "long team(int)", "int teamPlace(int)", "int ring(int)", "int since(int)", "int all(int)");

    public static void main(String[] args) {
        theClass();
        methods();
        fields();
        constructors();
        insides();
        DUE.finish();
    }

    private static void theClass() {
        int modifiers = ThreeDays.class.getModifiers();
        DUE.due("face: public", Modifier.isPublic(modifiers), true);
        DUE.due("face: final", Modifier.isFinal(modifiers), true);
        DUE.due("face: NONE", ThreeDays.NONE, -1);
    }

    private static String signature(Method method) {
        String types = Arrays.stream(method.getParameterTypes()).map(Class::getName).collect(Collectors.joining(","));
        return method.getReturnType().getName() + " " + method.getName() + "(" + types + ")";
    }

    private static void methods() {
        Set<String> found = new TreeSet<>();
        Set<String> names = new TreeSet<>();
        for (Method method : ThreeDays.class.getDeclaredMethods()) {
            if (!Modifier.isPrivate(method.getModifiers())) {
                DUE.due("face: public and of an object: " + method, method.getModifiers(), Modifier.PUBLIC);
                found.add(signature(method));
                names.add(method.getName());
            }
        }
        for (String due : METHODS) {
            DUE.due("face: has " + due, found.contains(due), true);
        }
        DUE.due("face: and no other: " + found, found.size(), METHODS.size());
        for (Method method : ThreeDays.class.getDeclaredMethods()) {
            boolean isPrivate = Modifier.isPrivate(method.getModifiers());
            DUE.due("language 1: " + method, isPrivate && names.contains(method.getName()), false);
        }
    }

    private static void fields() {
        for (Field field : ThreeDays.class.getDeclaredFields()) {
            boolean isNone = field.getName().equals("NONE");
            DUE.due("face: " + field, Modifier.isPrivate(field.getModifiers()), !isNone);
            if (isNone) {
                int due = Modifier.PUBLIC | Modifier.STATIC | Modifier.FINAL;
                DUE.due("face: NONE's kind", field.getModifiers(), due);
                DUE.due("face: NONE is an int", field.getType() == int.class, true);
            }
        }
    }

    private static void constructors() {
        Constructor<?>[] all = ThreeDays.class.getDeclaredConstructors();
        DUE.due("face: one constructor", all.length, 1);
        DUE.due("face: public", all[0].getModifiers(), Modifier.PUBLIC);
        DUE.due("face: takes nothing", all[0].getParameterCount(), 0);
    }

    private static void insides() {
        Class<?>[] inside = ThreeDays.class.getDeclaredClasses();
        DUE.due("language 11: some twelve classes", inside.length <= 12, true);
        for (Class<?> one : inside) {
            int modifiers = one.getModifiers();
            DUE.due("language 2: static: " + one, Modifier.isStatic(modifiers), true);
            DUE.due("language 1: not seen: " + one, Modifier.isPublic(modifiers) || Modifier.isProtected(modifiers), false);
            int own = 0;
            for (Field field : one.getDeclaredFields()) {
                boolean isStatic = Modifier.isStatic(field.getModifiers());
                own += isStatic ? 0 : 1;
                DUE.due("language 5: " + field, isStatic && !Modifier.isFinal(field.getModifiers()), false);
            }
            DUE.due("language 11: some twenty fields: " + one, own <= 20, true);
            for (Method method : one.getDeclaredMethods()) {
                DUE.due("language 11: at most seven: " + method, method.getParameterCount() <= 7, true);
            }
        }
    }
}
