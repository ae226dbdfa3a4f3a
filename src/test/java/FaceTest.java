import java.lang.reflect.Constructor;
import java.lang.reflect.Field;
import java.lang.reflect.Method;
import java.lang.reflect.Modifier;
import java.util.Set;
import java.util.TreeSet;

/** The class shows the document's face and nothing else (rules 1 and 5 of the language). */
public final class FaceTest {
    private static final Set<String> FACE = Set.of(
        "int thing(int)", "boolean stock(int,boolean)", "boolean set(int,int)", "boolean apart(int,int,boolean)",
        "int basket(int,int)", "boolean drop(int)", "int forget(int)", "int day()", "int look(int)",
        "int of(int,int)", "int count(int,int,int)", "int kin(int,int)", "int near(int,int)", "int taken(int)",
        "int score(int,int)", "int may(int)", "int list(int,int,int)", "int show(int,int)",
        "int shown(int,int,int)", "int why(int,int,int)");

    private static final Check check = new Check("FaceTest");

    public static void main(String[] args) {
        Class<BasketHouse> house = BasketHouse.class;
        check.due("public final class", house.getModifiers(), Modifier.PUBLIC | Modifier.FINAL);
        constructors(house);
        methods(house);
        fields(house);
        check.finish();
    }

    private static void constructors(Class<?> house) {
        Constructor<?>[] all = house.getDeclaredConstructors();
        check.due("constructors", all.length, 1);
        check.due("constructor's parameters", all[0].getParameterCount(), 0);
        check.due("constructor is public", all[0].getModifiers(), Modifier.PUBLIC);
    }

    private static void methods(Class<?> house) {
        Set<String> open = new TreeSet<>();
        Set<String> openNames = new TreeSet<>();
        for (Method method : house.getDeclaredMethods()) {
            if (!Modifier.isPrivate(method.getModifiers())) {
                check.due(method.getName() + " is public only", method.getModifiers(), Modifier.PUBLIC);
                open.add(told(method));
                openNames.add(method.getName());
            }
        }
        check.due("the face, not " + open, open.equals(FACE), true);
        for (Method method : house.getDeclaredMethods()) {
            boolean hidden = Modifier.isPrivate(method.getModifiers());
            check.due("private name " + method.getName(), hidden && openNames.contains(method.getName()), false);
            check.due("parameters of " + method.getName(), method.getParameterCount() <= 7, true);
        }
    }

    private static String told(Method method) {
        String parameters = "";
        for (Class<?> type : method.getParameterTypes()) {
            parameters += (parameters.isEmpty() ? "" : ",") + type.getName();
        }
        return method.getReturnType().getName() + " " + method.getName() + "(" + parameters + ")";
    }

    private static void fields(Class<?> house) {
        for (Field field : house.getDeclaredFields()) {
            int modifiers = field.getModifiers();
            if (field.getName().equals("NONE")) {
                check.due("NONE", modifiers, Modifier.PUBLIC | Modifier.STATIC | Modifier.FINAL);
            } else {
                check.due(field.getName() + " is private", Modifier.isPrivate(modifiers), true);
            }
            boolean loose = Modifier.isStatic(modifiers) && !Modifier.isFinal(modifiers);
            check.due(field.getName() + " is static and changes", loose, false);
        }
    }
}
