import java.lang.reflect.Constructor;
import java.lang.reflect.Field;
import java.lang.reflect.Method;
import java.lang.reflect.Modifier;
import java.util.Set;
import java.util.TreeSet;

/** The public face is the document's, and nothing more is seen from outside. */
public final class FaceTest {
    private static final Set<String> FACE = Set.of(
        "int relay(int)",
        "boolean settings(int,int,int,int)",
        "boolean options(int,boolean,int,int)",
        "boolean load(int,int)",
        "boolean fault(int,int)",
        "boolean jam(int,boolean)",
        "boolean line(int,int)",
        "boolean operate(int,boolean)",
        "int run(int)",
        "int crash()",
        "int time()",
        "int current(int)",
        "int state(int)",
        "long sum(int)",
        "int used(int)",
        "int changes(int)",
        "int known(int)",
        "int effective(int)",
        "int events()",
        "int event(int)",
        "int when(int)");

    public static void main(String[] args) {
        Check check = new Check();
        Class<?> type = FeederRelays.class;
        check.yes("public final class", Modifier.isPublic(type.getModifiers()) && Modifier.isFinal(type.getModifiers()));

        Constructor<?>[] makers = type.getDeclaredConstructors();
        check.due("constructors", makers.length, 1);
        check.due("parameters of the constructor", makers[0].getParameterCount(), 0);
        check.yes("public constructor", Modifier.isPublic(makers[0].getModifiers()));

        Set<String> seen = new TreeSet<>();
        Set<String> faceNames = new TreeSet<>();
        for (Method method : type.getDeclaredMethods()) {
            if (!Modifier.isPrivate(method.getModifiers())) {
                seen.add(text(method));
                faceNames.add(method.getName());
                check.yes(text(method) + " is public, not static", method.getModifiers() == Modifier.PUBLIC);
            }
        }
        check.yes("the face is the document's: " + seen, seen.equals(FACE));
        for (Field field : type.getDeclaredFields()) {
            check.yes(field.getName() + " is private", Modifier.isPrivate(field.getModifiers()));
        }
        checkHiddenNames(check, type, faceNames);
        for (Class<?> inside : type.getDeclaredClasses()) {
            check.yes(inside.getName() + " is static", Modifier.isStatic(inside.getModifiers()));
            checkHiddenNames(check, inside, faceNames);
        }
        check.end();
    }

    private static void checkHiddenNames(Check check, Class<?> type, Set<String> faceNames) {
        for (Method method : type.getDeclaredMethods()) {
            boolean isFace = type == FeederRelays.class && !Modifier.isPrivate(method.getModifiers());
            check.no(method + " bears the name of a public one", !isFace && faceNames.contains(method.getName()));
        }
    }

    private static String text(Method method) {
        StringBuilder text = new StringBuilder();
        text.append(method.getReturnType()).append(' ').append(method.getName()).append('(');
        for (Class<?> type : method.getParameterTypes()) {
            text.append(text.charAt(text.length() - 1) == '(' ? "" : ",").append(type);
        }
        return text.append(')').toString();
    }
}
