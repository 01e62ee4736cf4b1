import java.lang.reflect.Constructor;
import java.lang.reflect.Field;
import java.lang.reflect.Method;
import java.lang.reflect.Modifier;
import java.util.Set;
import java.util.TreeSet;

/** The public face: the class, its constants, its constructor and its methods, and no member beside. */
public final class FaceTest {
    private static final Set<String> METHODS = Set.of(
        "table(int,boolean,int)", "ask(int,int)", "askAll()", "pin(int,boolean)", "throwOut(int)",
        "make(int,int,int,int,int)", "set(int,int)", "type(char)", "clearText()", "undo()", "keep()",
        "restore()", "cost(int,int,int)", "cheapest(int,int)", "plan(int,int)", "reason(int,int)",
        "ifAsked(int,int,int)", "reach(int,int)", "oldest()", "tableOf(int,int)", "count(int)");

    public static void main(String[] args) {
        Due.due("UNKNOWN", KeptPlans.UNKNOWN, -1);
        Due.due("BAD_VALUE", KeptPlans.BAD_VALUE, -2);
        Due.due("FULL", KeptPlans.FULL, -3);
        Due.due("NONE", KeptPlans.NONE, -4);
        int modifiers = KeptPlans.class.getModifiers();
        Due.due("the class is public and final", modifiers, Modifier.PUBLIC | Modifier.FINAL);
        fields();
        methods();
        Constructor<?>[] constructors = KeptPlans.class.getDeclaredConstructors();
        Due.due("constructors", constructors.length, 1);
        Due.due("the constructor is public", constructors[0].getModifiers(), Modifier.PUBLIC);
        Due.due("the constructor's arguments", constructors[0].getParameterCount(), 0);
        Due.end();
    }

    private static void fields() {
        Set<String> seen = new TreeSet<>();
        for (Field field : KeptPlans.class.getDeclaredFields()) {
            if (!Modifier.isPrivate(field.getModifiers())) {
                seen.add(Modifier.toString(field.getModifiers()) + " " + field.getType() + " " + field.getName());
            }
            if (Modifier.isStatic(field.getModifiers())) {
                Due.due(field.getName() + " is final", field.getModifiers() & Modifier.FINAL, Modifier.FINAL);
            }
        }
        Due.same("the constants", seen.toString(), "[public static final int BAD_VALUE, "
            + "public static final int FULL, public static final int NONE, public static final int UNKNOWN]");
    }

    private static void methods() {
        Set<String> seen = new TreeSet<>();
        Set<String> names = new TreeSet<>();
        for (String method : METHODS) {
            names.add(method.substring(0, method.indexOf('(')));
        }
        for (Method method : KeptPlans.class.getDeclaredMethods()) {
            if (!Modifier.isPrivate(method.getModifiers())) {
                Due.due(method.getName() + " is public", method.getModifiers(), Modifier.PUBLIC);
                Due.same(method.getName() + "'s answer", method.getReturnType().getName(), "int");
                seen.add(told(method));
            } else {
                Due.due(method.getName() + " bears a public name", names.contains(method.getName()) ? 1 : 0, 0);
            }
        }
        Due.same("the methods", seen.toString(), new TreeSet<>(METHODS).toString());
    }

    private static String told(Method method) {
        StringBuilder text = new StringBuilder(method.getName()).append('(');
        for (Class<?> type : method.getParameterTypes()) {
            text.append(text.charAt(text.length() - 1) == '(' ? "" : ",").append(type.getName());
        }
        return text.append(')').toString();
    }
}
