import java.lang.reflect.Constructor;
import java.lang.reflect.Field;
import java.lang.reflect.Method;
import java.lang.reflect.Modifier;
import java.util.Map;
import java.util.TreeMap;
import java.util.TreeSet;

/** The public face: the document's constants, constructor and methods, and nothing else that others can reach. */
public final class FaceTest {
    private static final String[] METHODS = {
        "int feed(int,long)", "int town()", "int fault()", "int told(int)", "int place(int,int)", "int letter(int,int)",
        "int far(int,int)", "int order(int)", "int stones(int,int)", "int law(int)", "int price(int)", "int drift(int)",
        "int shortest(int)", "int inTime(int)", "int answer(int)", "int rests(int)", "int best()", "int agreed(int,int)",
        "int two(int)", "int came(int)", "int ends(int,int)", "int write(int,int)", "int tear()", "int judge()",
        "int seed(int)", "int keep(int)", "int goBack(int)"
    };

    public static void main(String[] args) throws Exception {
        Class<?> face = HeaviestFirst.class;
        Check.holds("public and final", Modifier.isPublic(face.getModifiers()) && Modifier.isFinal(face.getModifiers()));
        Constructor<?>[] constructors = face.getDeclaredConstructors();
        Check.holds("one public constructor without parameters", constructors.length == 1
                && Modifier.isPublic(constructors[0].getModifiers()) && constructors[0].getParameterCount() == 0);
        methods(face);
        constants(face);
        Check.end("FaceTest");
    }

    private static void methods(Class<?> face) {
        TreeSet<String> seen = new TreeSet<>();
        for (Method method : face.getDeclaredMethods()) {
            if (!Modifier.isPrivate(method.getModifiers())) {
                String own = method.toString().replace("HeaviestFirst.", "");
                seen.add(own);
            }
        }
        TreeSet<String> due = new TreeSet<>();
        for (String method : METHODS) {
            due.add("public " + method);
        }
        Check.holds("methods are " + due + " but were " + seen, seen.equals(due));
    }

    private static void constants(Class<?> face) throws Exception {
        Map<String, Integer> due = Map.of("NONE", -1, "UNKNOWN", -1000000001, "OUTSIDE", -1000000002,
                "NOT", -1000000003, "FULL", -1000000004);
        Map<String, Integer> seen = new TreeMap<>();
        for (Field field : face.getDeclaredFields()) {
            if (!Modifier.isPrivate(field.getModifiers())) {
                Check.holds("a constant: " + field, Modifier.isStatic(field.getModifiers())
                        && Modifier.isFinal(field.getModifiers()) && Modifier.isPublic(field.getModifiers()));
                seen.put(field.getName(), field.getInt(null));
            }
        }
        Check.holds("constants are " + due + " but were " + seen, seen.equals(due));
    }
}
