import java.io.IOException;
import java.lang.reflect.Constructor;
import java.lang.reflect.Field;
import java.lang.reflect.Method;
import java.lang.reflect.Modifier;
import java.nio.file.Files;
import java.nio.file.Path;
import java.util.ArrayList;
import java.util.List;
import java.util.TreeSet;
import java.util.regex.Matcher;
import java.util.regex.Pattern;

/** The class has the face that the document tells, its constants, and no other member that is not private. */
public final class FaceTest {
    private static final Path DOC = Path.of("../shared/DOC.md");
    private static final Pattern METHOD = Pattern.compile("public (int|long) (\\w+)\\(([^)]*)\\);");
    private static final Pattern CONSTANT = Pattern.compile("([A-Z]+) = (-?\\d+)[,;]");

    public static void main(String[] args) throws IOException, ReflectiveOperationException {
        Class<?> face = GutterGardens.class;
        Matcher block = Pattern.compile("(?s)```java\n(.*?)```").matcher(Files.readString(DOC));
        Due.that("the document has a face", block.find());
        Due.that("public and final", Modifier.isPublic(face.getModifiers()) && Modifier.isFinal(face.getModifiers()));
        constants(face, block.group(1));
        methods(face, block.group(1));
        constructors(face);
        fields(face);
        inside(face);
        Due.end();
    }

    private static void constants(Class<?> face, String told) throws ReflectiveOperationException {
        Matcher constant = CONSTANT.matcher(told);
        TreeSet<String> names = new TreeSet<>();
        while (constant.find()) {
            Field field = face.getDeclaredField(constant.group(1));
            Due.that(field + " is public static final int", Modifier.isPublic(field.getModifiers())
                && Modifier.isStatic(field.getModifiers()) && Modifier.isFinal(field.getModifiers())
                && field.getType() == int.class);
            Due.is(constant.group(1), field.getInt(null), Integer.parseInt(constant.group(2)));
            names.add(constant.group(1));
        }
        TreeSet<String> shown = new TreeSet<>();
        for (Field field : face.getDeclaredFields()) {
            if (!Modifier.isPrivate(field.getModifiers())) shown.add(field.getName());
        }
        Due.that("the constants are " + shown, shown.equals(names) && names.size() == 5);
    }

    private static TreeSet<String> toldMethods(String told) {
        TreeSet<String> all = new TreeSet<>();
        Matcher method = METHOD.matcher(told);
        while (method.find()) {
            String types = method.group(3).replaceAll("(\\w+) \\w+", "$1").replace(" ", "");
            all.add(method.group(1) + " " + method.group(2) + "(" + types + ")");
        }
        Due.is("methods that the document tells", all.size(), 27);
        return all;
    }

    private static void methods(Class<?> face, String told) {
        TreeSet<String> shown = new TreeSet<>();
        TreeSet<String> names = new TreeSet<>();
        for (Method method : face.getDeclaredMethods()) {
            if (method.isSynthetic() || Modifier.isPrivate(method.getModifiers())) continue;
            Due.that(method + " is public", Modifier.isPublic(method.getModifiers()));
            Due.that(method + " is no static one", !Modifier.isStatic(method.getModifiers()));
            shown.add(signature(method));
            names.add(method.getName());
        }
        Due.that("the methods are " + shown, shown.equals(toldMethods(told)));
        for (Class<?> one : classesIn(face)) {
            for (Method method : one.getDeclaredMethods()) {
                boolean isOwn = one != face || Modifier.isPrivate(method.getModifiers());
                if (isOwn) Due.that(method + " has a name of its own", !names.contains(method.getName()));
            }
        }
    }

    private static String signature(Method method) {
        List<String> types = new ArrayList<>();
        for (Class<?> type : method.getParameterTypes()) types.add(type.getName());
        return method.getReturnType().getName() + " " + method.getName() + "(" + String.join(",", types) + ")";
    }

    private static void constructors(Class<?> face) {
        Constructor<?>[] all = face.getDeclaredConstructors();
        Due.is("constructors", all.length, 1);
        Due.that("public, of nothing", Modifier.isPublic(all[0].getModifiers()) && all[0].getParameterCount() == 0);
    }

    private static void fields(Class<?> face) {
        for (Class<?> one : classesIn(face)) {
            int own = 0;
            for (Field field : one.getDeclaredFields()) {
                boolean isStatic = Modifier.isStatic(field.getModifiers());
                if (!isStatic) own++;
                Due.that(field + " is final if static", !isStatic || Modifier.isFinal(field.getModifiers()));
            }
            Due.that(one + " has some twenty fields at most", own <= 20);
        }
    }

    private static void inside(Class<?> face) {
        List<Class<?>> all = classesIn(face);
        Due.that("some twelve classes at most", all.size() <= 12);
        for (Class<?> one : all) {
            if (one == face) continue;
            Due.that(one + " is static", Modifier.isStatic(one.getModifiers()));
            Due.that(one + " is not public", !Modifier.isPublic(one.getModifiers()));
            Due.that(one + " is not protected", !Modifier.isProtected(one.getModifiers()));
        }
    }

    private static List<Class<?>> classesIn(Class<?> face) {
        List<Class<?>> all = new ArrayList<>();
        all.add(face);
        for (Class<?> one : face.getDeclaredClasses()) all.addAll(classesIn(one));
        return all;
    }
}
