import java.lang.reflect.Constructor;
import java.lang.reflect.Field;
import java.lang.reflect.Method;
import java.lang.reflect.Modifier;
import java.util.ArrayList;
import java.util.Arrays;
import java.util.List;
import java.util.TreeSet;

/** The class has the document's face, its constants, and no other member that is not private. */
public final class FaceTest {
    private static final String[] FACE = {
        "int write(int,long)", "int wipe()", "int fault()", "int street()", "int roof(int,int)", "int dam(int,boolean)",
        "int quarter(int)", "int pail(int,int)", "int soap(int,int)", "int undo()",
        "int got(int,int,int)", "int butt(int,int,boolean)", "int dams(int,int)", "int enough(int,int)",
        "int plan(int,int)", "int planAt(int,int,int)", "int each(int,int)",
        "int gauge(int,int,int)", "int ungauge()", "int fits()", "int dammed(boolean)",
        "long luck(int,int,int,int,boolean)", "long seed(long)", "int summer(int,int)",
        "int keep(int)", "int again(int)", "int count(int)"};

    public static void main(String[] args) {
        Class<?> face = GutterGardens.class;
        Due.that("public and final", Modifier.isPublic(face.getModifiers()) && Modifier.isFinal(face.getModifiers()));
        constants();
        methods(face);
        constructors(face);
        fields(face);
        inside(face);
        Due.end();
    }

    private static void constants() {
        Due.is("UNKNOWN", GutterGardens.UNKNOWN, -1);
        Due.is("OUTSIDE", GutterGardens.OUTSIDE, -2);
        Due.is("STATE", GutterGardens.STATE, -3);
        Due.is("FULL", GutterGardens.FULL, -4);
        Due.is("NONE", GutterGardens.NONE, -9);
    }

    private static void methods(Class<?> face) {
        TreeSet<String> shown = new TreeSet<>();
        TreeSet<String> names = new TreeSet<>();
        for (Method method : face.getDeclaredMethods()) {
            if (method.isSynthetic() || Modifier.isPrivate(method.getModifiers())) continue;
            Due.that(method + " is public", Modifier.isPublic(method.getModifiers()));
            Due.that(method + " is no static one", !Modifier.isStatic(method.getModifiers()));
            shown.add(signature(method));
            names.add(method.getName());
        }
        Due.that("the methods are " + shown, shown.equals(new TreeSet<>(Arrays.asList(FACE))));
        for (Class<?> one : classesIn(face)) {
            for (Method method : one.getDeclaredMethods()) {
                boolean isOwn = one != face || Modifier.isPrivate(method.getModifiers());
                if (isOwn) Due.that(method + " has a name of its own", !names.contains(method.getName()));
            }
        }
    }

    private static String signature(Method method) {
        List<String> types = new ArrayList<>();
        for (Class<?> type : method.getParameterTypes()) types.add(type.getName());
        return method.getReturnType().getName() + " " + method.getName() + "(" + String.join(",", types) + ")";
    }

    private static void constructors(Class<?> face) {
        Constructor<?>[] all = face.getDeclaredConstructors();
        Due.is("constructors", all.length, 1);
        Due.that("public, of nothing", Modifier.isPublic(all[0].getModifiers()) && all[0].getParameterCount() == 0);
    }

    private static void fields(Class<?> face) {
        TreeSet<String> shown = new TreeSet<>();
        for (Class<?> one : classesIn(face)) {
            int own = 0;
            for (Field field : one.getDeclaredFields()) {
                boolean isStatic = Modifier.isStatic(field.getModifiers());
                if (!isStatic) own++;
                Due.that(field + " is final if static", !isStatic || Modifier.isFinal(field.getModifiers()));
                if (one == face && !Modifier.isPrivate(field.getModifiers())) shown.add(field.getName());
            }
            Due.that(one + " has some twenty fields at most", own <= 20);
        }
        Due.that("constants", shown.equals(new TreeSet<>(List.of("UNKNOWN", "OUTSIDE", "STATE", "FULL", "NONE"))));
    }

    private static void inside(Class<?> face) {
        List<Class<?>> all = classesIn(face);
        Due.that("some twelve classes at most", all.size() <= 12);
        for (Class<?> one : all) {
            if (one == face) continue;
            Due.that(one + " is static", Modifier.isStatic(one.getModifiers()));
            Due.that(one + " is not public", !Modifier.isPublic(one.getModifiers()));
            Due.that(one + " is not protected", !Modifier.isProtected(one.getModifiers()));
        }
    }

    private static List<Class<?>> classesIn(Class<?> face) {
        List<Class<?>> all = new ArrayList<>();
        all.add(face);
        for (Class<?> one : face.getDeclaredClasses()) all.addAll(classesIn(one));
        return all;
    }
}
