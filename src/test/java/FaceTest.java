import java.lang.reflect.Constructor;
import java.lang.reflect.Field;
import java.lang.reflect.Method;
import java.lang.reflect.Modifier;
import java.util.ArrayList;
import java.util.Collections;
import java.util.List;

/** The class shows the document's face and no more (LANGUAGE.md, rules 1 and 5). */
public final class FaceTest {
    private static final String[] METHODS = {
        "boolean alternate(int, int)",
        "boolean bind(int, int, boolean) throws IllegalArgumentException, IllegalStateException",
        "boolean header()",
        "boolean passed(int)",
        "boolean remove(int, boolean)",
        "boolean type(long, int)",
        "boolean unbind(int, int, boolean)",
        "int exchange(int) throws IllegalArgumentException, IllegalStateException",
        "int found(int) throws NoSuchElementException",
        "int of(int, int)",
        "int queue() throws IllegalStateException",
        "int route(int) throws IllegalArgumentException",
        "int total(int)",
        "void message()"};

    public static void main(String[] args) {
        Check check = new Check();
        Class<?> face = RouteDesk.class;
        check.due("public and final", face.getModifiers(), Modifier.PUBLIC | Modifier.FINAL);
        check.due("the methods", shown(face), List.of(METHODS));
        for (Constructor<?> one : face.getDeclaredConstructors()) {
            check.due("the constructor", one.toString(), "public RouteDesk()");
        }
        for (Field field : face.getDeclaredFields()) {
            if (!Modifier.isPrivate(field.getModifiers())) {
                check.due("the field", field.toString(), "public static final int RouteDesk.NONE");
            }
        }
        noStaticState(check, face);
        noSecondUseOfName(check, face);
        for (Class<?> inside : face.getDeclaredClasses()) {
            check.due(inside + " is static", Modifier.isStatic(inside.getModifiers()), true);
            check.due(inside + " is not for all", inside.getModifiers() & (Modifier.PUBLIC | Modifier.PROTECTED), 0);
            noStaticState(check, inside);
        }
        check.end();
    }

    private static List<String> shown(Class<?> face) {
        List<String> shown = new ArrayList<>();
        for (Method method : face.getDeclaredMethods()) {
            if (Modifier.isPrivate(method.getModifiers())) {
                continue;
            }
            shown.add(method.getReturnType() + " " + method.getName() + "(" + names(method.getParameterTypes()) + ")"
                    + (method.getExceptionTypes().length == 0 ? "" : " throws " + names(method.getExceptionTypes())));
        }
        Collections.sort(shown);
        return shown;
    }

    private static String names(Class<?>[] types) {
        List<String> names = new ArrayList<>();
        for (Class<?> type : types) {
            names.add(type.getSimpleName());
        }
        return String.join(", ", names);
    }

    private static void noSecondUseOfName(Check check, Class<?> face) {
        List<String> used = new ArrayList<>();
        for (Method method : face.getDeclaredMethods()) {
            check.due(method + " shares no name", used.contains(method.getName()), false);
            used.add(method.getName());
        }
    }

    private static void noStaticState(Check check, Class<?> one) {
        for (Field field : one.getDeclaredFields()) {
            int modifiers = field.getModifiers();
            check.due(field + " is no static state",
                    !Modifier.isStatic(modifiers) || Modifier.isFinal(modifiers), true);
        }
    }
}
