import java.lang.reflect.Constructor;
import java.lang.reflect.Field;
import java.lang.reflect.Method;
import java.lang.reflect.Modifier;
import java.util.Arrays;
import java.util.Set;
import java.util.TreeSet;

/** The public face: the document's, and nothing else that can be seen from outside. */
public final class FaceTest {
    private static final Set<String> METHODS = new TreeSet<>(Arrays.asList(
        "void begin()", "int poke(int,int,int,int,int,int)", "int word(int)", "int sum(int,int)",
        "int setRegister(int,int)", "int register(int)", "int setControl(int,int)", "int control(int)",
        "int place(int,int)", "boolean line(boolean)", "int run(int)", "int count(int)", "int console(int)",
        "int breaches()"));

    public static void main(String[] args) {
        Checks checks = new Checks();
        checks.due("BAD", HyperHost.BAD, -1);
        checks.due("the class is public and final", HyperHost.class.getModifiers(), Modifier.PUBLIC | Modifier.FINAL);
        Set<String> seen = new TreeSet<>();
        for (Method method : HyperHost.class.getDeclaredMethods()) {
            if (!Modifier.isPrivate(method.getModifiers())) {
                seen.add(told(method));
                checks.due(method + " is public", method.getModifiers(), Modifier.PUBLIC);
            }
        }
        checks.due("the methods are " + seen, seen.equals(METHODS) ? 1 : 0, 1);
        for (Field field : HyperHost.class.getDeclaredFields()) {
            boolean hidden = Modifier.isPrivate(field.getModifiers());
            checks.due(field + " is BAD or private", hidden || field.getName().equals("BAD") ? 1 : 0, 1);
        }
        Constructor<?>[] constructors = HyperHost.class.getDeclaredConstructors();
        checks.due("constructors", constructors.length, 1);
        checks.due("parameters of the constructor", constructors[0].getParameterCount(), 0);
        checks.due("the constructor is public", constructors[0].getModifiers(), Modifier.PUBLIC);
        checks.finish();
    }

    private static String told(Method method) {
        StringBuilder text = new StringBuilder();
        text.append(method.getReturnType().getName()).append(' ').append(method.getName()).append('(');
        Class<?>[] parameters = method.getParameterTypes();
        for (int i = 0; i < parameters.length; i++) {
            text.append(i == 0 ? "" : ",").append(parameters[i].getName());
        }
        return text.append(')').toString();
    }
}
