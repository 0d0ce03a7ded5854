import java.lang.reflect.Constructor;
import java.lang.reflect.Field;
import java.lang.reflect.Method;
import java.lang.reflect.Modifier;
import java.util.Set;
import java.util.TreeSet;

/** The public face has what the document lists, and no more. */
final class FaceTest {
    private static final String[] METHODS = {
        "land(int,int)", "cell(int,int,int)", "stone(int,int,int)", "dug(int,int)",
        "ice(int,int,int,int)", "flood(int)", "covers(int)", "by(int,int,int)", "brings(int,int,int)",
        "then(int,int)", "clear(int)", "told(int,int)", "ends(int,int,int)", "whence(int,int)", "from(int,int,int)",
        "sign(int,int,int,int)", "forget(int)", "explains(int,int)", "costs(int)", "fits()", "best()", "bestGo(int)",
        "take(int)", "unlike(int,int)", "look(int,int,int)", "level(int,int)", "lake(int)", "sunk(int,int,int)",
        "over(int,int,boolean)", "above(int,int)", "ring()", "drops()", "drop(int)", "count(int)"};

    public static void main(String[] args) {
        Class<?> face = BoulderLand.class;
        Check.so("the class is public and final",
            Modifier.isPublic(face.getModifiers()) && Modifier.isFinal(face.getModifiers()));
        Check.so("the class stands in no package", face.getPackageName().isEmpty());
        checkMethods(face);
        checkFields(face);
        Constructor<?>[] made = face.getDeclaredConstructors();
        Check.due("constructors", made.length, 1);
        Check.so("the constructor is public, without arguments",
            Modifier.isPublic(made[0].getModifiers()) && made[0].getParameterCount() == 0);
        Check.due("UNKNOWN", BoulderLand.UNKNOWN, -900001);
        Check.due("OUTSIDE", BoulderLand.OUTSIDE, -900002);
        Check.due("STATE", BoulderLand.STATE, -900003);
        Check.due("FULL", BoulderLand.FULL, -900004);
        Check.due("NONE", BoulderLand.NONE, -900009);
        Check.end();
    }

    private static void checkMethods(Class<?> face) {
        Set<String> wanted = new TreeSet<>(Set.of(METHODS));
        Set<String> names = new TreeSet<>();
        for (String method : METHODS) {
            names.add(method.substring(0, method.indexOf('(')));
        }
        for (Method method : face.getDeclaredMethods()) {
            if (Modifier.isPrivate(method.getModifiers())) {
                Check.so("private " + method.getName() + " bears no public name", !names.contains(method.getName()));
                continue;
            }
            Check.so(method + " is of the face", wanted.remove(signature(method)));
            Check.so(method + " is public, of the object, and answers an int",
                Modifier.isPublic(method.getModifiers()) && !Modifier.isStatic(method.getModifiers())
                    && method.getReturnType() == int.class);
        }
        Check.so("missing: " + wanted, wanted.isEmpty());
    }

    private static String signature(Method method) {
        StringBuilder text = new StringBuilder(method.getName()).append('(');
        for (Class<?> type : method.getParameterTypes()) {
            text.append(text.charAt(text.length() - 1) == '(' ? "" : ",").append(type.getName());
        }
        return text.append(')').toString();
    }

    private static void checkFields(Class<?> face) {
        Set<String> wanted = new TreeSet<>(Set.of("UNKNOWN", "OUTSIDE", "STATE", "FULL", "NONE"));
        for (Field field : face.getDeclaredFields()) {
            int is = field.getModifiers();
            if (Modifier.isStatic(is)) {
                Check.so(field + " is final", Modifier.isFinal(is));
            }
            if (!Modifier.isPrivate(is)) {
                Check.so(field + " is of the face", wanted.remove(field.getName()));
                Check.so(field + " is a public static int", Modifier.isPublic(is) && Modifier.isStatic(is)
                    && field.getType() == int.class);
            }
        }
        Check.so("missing: " + wanted, wanted.isEmpty());
    }
}
