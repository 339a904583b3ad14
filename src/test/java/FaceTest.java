import java.lang.reflect.Constructor;
import java.lang.reflect.Field;
import java.lang.reflect.InvocationTargetException;
import java.lang.reflect.Method;
import java.lang.reflect.Modifier;
import java.util.TreeSet;

/** The public face is the document's and no more; no call throws, whatever it is given. */
public final class FaceTest {
    private static final String[] FACE = {
        "int forest(int,int,int,int)", "int ofTale(int,int)", "int know(int,boolean)", "int believe(int,boolean)",
        "int night(int,int,int,int,int)", "int comes(int,int,int,int)", "int never(int,int)",
        "int study(int,int,int,int)", "int game(int)", "long porter(int,int,int)", "int reading(int,int,int)",
        "int back(int)", "int fits(int)", "int sheet(int,int,int)", "int lose(int)", "int put(int,int,int)",
        "long cell(int,int,int)", "int copy(int,int,int,int,int)", "int tell(int)", "int whisper(int)",
        "int as(int,int)", "int trace()", "int fault()", "int many(int)",
    };
    private static final String[] CONSTANTS = {"FULL -4", "LOST -9223372036854775808", "NONE -9", "OUTSIDE -2", "STATE -3", "UNKNOWN -1"};
    private static final int[] ARGUMENTS = {
        Integer.MIN_VALUE, -9, -1, 0, 1, 2, 3, 4, 5, 9, 21, 60, Integer.MAX_VALUE
    };

    private static int wrong = 0;

    private static void hold(boolean so, String what) {
        if (so) return;
        wrong++;
        System.out.println("not so: " + what);
    }

    private static String told(Method method) {
        StringBuilder told = new StringBuilder(method.getReturnType() + " " + method.getName() + "(");
        for (Class<?> type : method.getParameterTypes()) told.append(type).append(",");
        if (method.getParameterCount() > 0) told.setLength(told.length() - 1);
        return told.append(")").toString();
    }

    private static void face() throws IllegalAccessException {
        Class<?> type = CorpseTales.class;
        hold(Modifier.isPublic(type.getModifiers()) && Modifier.isFinal(type.getModifiers()), "the class is public and final");
        TreeSet<String> methods = new TreeSet<>();
        for (Method method : type.getDeclaredMethods()) {
            if (!Modifier.isPrivate(method.getModifiers())) methods.add(told(method));
        }
        hold(methods.equals(new TreeSet<>(java.util.Arrays.asList(FACE))), "the methods are the document's: " + methods);
        TreeSet<String> constants = new TreeSet<>();
        for (Field field : type.getDeclaredFields()) {
            if (!Modifier.isPrivate(field.getModifiers())) constants.add(field.getName() + " " + field.get(null));
        }
        hold(constants.equals(new TreeSet<>(java.util.Arrays.asList(CONSTANTS))), "the constants are the document's: " + constants);
        Constructor<?>[] made = type.getDeclaredConstructors();
        hold(made.length == 1 && made[0].getParameterCount() == 0 && Modifier.isPublic(made[0].getModifiers()), "the constructor");
    }

    private static CorpseTales grown() {
        CorpseTales x = new CorpseTales();
        String text = "r5;t0110;d1221;o2300;t4562";
        x.sheet(0, 0, 60);
        for (int i = 0; i < text.length(); i++) x.put(0, i, text.charAt(i));
        x.forest(0, 0, 0, text.length());
        x.sheet(1, 1, 21);
        x.sheet(2, 2, 0);
        return x;
    }

    private static void call(Object on, Method method, Object[] with, int place) throws IllegalAccessException {
        if (place == with.length) {
            try {
                method.invoke(on, with);
            } catch (InvocationTargetException thrown) {
                hold(false, told(method) + " by " + java.util.Arrays.toString(with) + " threw " + thrown.getCause());
            }
            return;
        }
        if (method.getParameterTypes()[place] == boolean.class) {
            for (int is = 0; is < 2; is++) {
                with[place] = is == 1;
                call(on, method, with, place + 1);
            }
            return;
        }
        for (int argument : ARGUMENTS) {
            with[place] = argument;
            call(on, method, with, place + 1);
        }
    }

    public static void main(String[] args) throws IllegalAccessException {
        face();
        for (Method method : CorpseTales.class.getDeclaredMethods()) {
            if (Modifier.isPrivate(method.getModifiers())) continue;
            call(new CorpseTales(), method, new Object[method.getParameterCount()], 0);
            call(grown(), method, new Object[method.getParameterCount()], 0);
        }
        System.out.println(wrong == 0 ? "the face is as due, and no call threw" : wrong + " faults of the face");
        if (wrong != 0) System.exit(1);
    }
}
