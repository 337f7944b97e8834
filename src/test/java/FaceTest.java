import java.lang.reflect.Constructor;
import java.lang.reflect.Field;
import java.lang.reflect.Method;
import java.lang.reflect.Modifier;
import java.util.Set;
import java.util.TreeSet;

/** The public face: every member of the document, and no other that is not private. */
final class FaceTest {
    private static final String[] METHODS = {
        "int feed(int, int, int, int, int)", "boolean end(int)", "boolean car(int, int, int)",
        "boolean bounds(int, int, int, int)", "boolean drive(int, int, int)", "boolean gap(int)",
        "int tells(int)", "boolean set(int)", "void keep()", "boolean dead(int)", "int span(boolean)",
        "long mark(int, int) throws NoSuchElementException", "long metres(int, boolean) throws NoSuchElementException",
        "long average(int, boolean, int) throws NoSuchElementException", "int range(boolean)", "int shown()",
        "int refill(int, boolean) throws NoSuchElementException", "int plan()", "int buys(int)", "int count(int)"};

    public static void main(String[] args) {
        methods();
        fields();
        inside();
        Constructor<?>[] all = TripReckoner.class.getDeclaredConstructors();
        Check.due("constructors", all.length, 1);
        Check.due("the constructor is public", Modifier.isPublic(all[0].getModifiers()), true);
        Check.due("its parameters", all[0].getParameterCount(), 0);
        Check.due("the class is final", Modifier.isFinal(TripReckoner.class.getModifiers()), true);
        Check.due("NONE", TripReckoner.NONE, -1);
        Check.due("no package", TripReckoner.class.getPackageName(), "");
        Check.finish();
    }

    private static void methods() {
        Set<String> open = new TreeSet<>();
        Set<String> names = new TreeSet<>();
        for (Method m : TripReckoner.class.getDeclaredMethods()) {
            if (Modifier.isPublic(m.getModifiers())) {
                open.add(told(m));
                names.add(m.getName());
            }
        }
        for (Method m : TripReckoner.class.getDeclaredMethods()) {
            if (!Modifier.isPublic(m.getModifiers()) && !m.isSynthetic()) {
                Check.due(m.getName() + " is private", Modifier.isPrivate(m.getModifiers()), true);
                Check.due(m.getName() + " bears a public name", names.contains(m.getName()), false);
            }
        }
        for (String want : METHODS) {
            Check.due(want + " is there", open.remove(want), true);
        }
        for (String more : open) {
            Check.due(more + " is no part of the face", true, false);
        }
    }

    private static void fields() {
        for (Field f : TripReckoner.class.getDeclaredFields()) {
            boolean constant = f.getName().equals("NONE");
            Check.due(f.getName() + " is public", Modifier.isPublic(f.getModifiers()), constant);
            Check.due(f.getName() + " is private", Modifier.isPrivate(f.getModifiers()), !constant);
            if (Modifier.isStatic(f.getModifiers())) {
                Check.due(f.getName() + " is final", Modifier.isFinal(f.getModifiers()), true);
            }
        }
    }

    /** Nothing of the classes inside is seen from without. */
    private static void inside() {
        for (Class<?> type : TripReckoner.class.getDeclaredClasses()) {
            String name = type.getSimpleName();
            Check.due(name + " is static", Modifier.isStatic(type.getModifiers()), true);
            Check.due(name + " is private", Modifier.isPrivate(type.getModifiers()), true);
            for (Field f : type.getDeclaredFields()) {
                Check.due(name + "." + f.getName() + " is private", Modifier.isPrivate(f.getModifiers()), true);
                boolean changing = Modifier.isStatic(f.getModifiers()) && !Modifier.isFinal(f.getModifiers());
                Check.due(name + "." + f.getName() + " is static and changes", changing, false);
            }
            for (Method m : type.getDeclaredMethods()) {
                Check.due(name + "." + m.getName() + " is private", Modifier.isPrivate(m.getModifiers()), true);
            }
        }
    }

    private static String told(Method m) {
        StringBuilder text = new StringBuilder();
        for (Class<?> type : m.getParameterTypes()) {
            text.append(text.length() == 0 ? "" : ", ").append(type.getSimpleName());
        }
        String told = m.getReturnType().getSimpleName() + " " + m.getName() + "(" + text + ")";
        for (Class<?> type : m.getExceptionTypes()) {
            told += " throws " + type.getSimpleName();
        }
        return told;
    }
}
