import java.lang.reflect.Constructor;
import java.lang.reflect.Executable;
import java.lang.reflect.Field;
import java.lang.reflect.Method;
import java.lang.reflect.Modifier;
import java.util.ArrayList;
import java.util.Arrays;
import java.util.Collections;
import java.util.HashSet;
import java.util.List;
import java.util.Set;

/** The class has the document's face and no other, and keeps nothing between its objects. */
public final class FaceTest {
    private static final String PLACE = "IndexOutOfBoundsException";
    private static final String ARGUMENT = "IllegalArgumentException";
    private static final String STATE = "IllegalStateException";

    private static final List<String> FACE = List.of(
            "int item(int, int, int) " + PLACE + " " + ARGUMENT + " " + STATE,
            "int quote(int, int, int, int) " + PLACE + " " + ARGUMENT + " " + STATE,
            "boolean confirm(int, int) " + PLACE + " " + STATE,
            "void link(int, int, int, int) " + PLACE + " " + ARGUMENT + " " + STATE,
            "int spend(int, int, int) " + PLACE + " " + ARGUMENT,
            "long adopt()",
            "int publish() " + STATE,
            "int fix(int, int, int, int) " + PLACE + " " + ARGUMENT + " " + STATE,
            "int contract(int, int, int, boolean) " + ARGUMENT + " " + STATE,
            "double price(int, int, int) " + PLACE,
            "boolean isMatched(int, int, int) " + PLACE,
            "double relative(int, int) " + PLACE,
            "double bounce(int, int) " + PLACE,
            "double ofGroup(int, int) " + PLACE,
            "double share(int, int, int) " + PLACE,
            "double index(int, int) " + PLACE,
            "double indexAnew(int, int) " + PLACE,
            "double corrected(int, int) " + PLACE,
            "int published(int) " + PLACE,
            "float growth(int) " + PLACE,
            "double core(int) " + PLACE,
            "double direct(int) " + PLACE,
            "int doubts(int) " + PLACE,
            "long ofContract(int, int) " + PLACE,
            "long owed(int) " + PLACE,
            "int count(int) " + PLACE);

    private FaceTest() { }

    public static void main(String[] args) {
        Check check = new Check();
        Class<?> office = BasketryOffice.class;
        check.due("public and final", office.getModifiers(), Modifier.PUBLIC | Modifier.FINAL);
        check.due("constructors", constructors(office), List.of("()"));
        check.due("methods", seenMethods(office), sorted(FACE));
        check.due("constants", seenConstants(office), List.of("CARLI", "DUTOT", "HARMONIC", "NONE"));
        check.due("private methods with a public name", sharedNames(office), List.of());
        check.due("static fields that are not final", looseStatics(office), List.of());
        check.end("FaceTest");
    }

    private static List<String> constructors(Class<?> office) {
        List<String> found = new ArrayList<>();
        for (Constructor<?> each : office.getDeclaredConstructors()) {
            found.add(parameters(each) + (Modifier.isPublic(each.getModifiers()) ? "" : " not public"));
        }
        return found;
    }

    private static List<String> seenMethods(Class<?> office) {
        List<String> found = new ArrayList<>();
        for (Method each : office.getDeclaredMethods()) {
            if (!Modifier.isPrivate(each.getModifiers())) {
                StringBuilder text = new StringBuilder(each.getReturnType() + " " + each.getName() + parameters(each));
                for (Class<?> thrown : each.getExceptionTypes()) {
                    text.append(' ').append(thrown.getSimpleName());
                }
                found.add(text.toString());
            }
        }
        return sorted(found);
    }

    private static String parameters(Executable of) {
        String types = Arrays.toString(of.getParameterTypes());
        return "(" + types.substring(1, types.length() - 1) + ")";
    }

    private static List<String> seenConstants(Class<?> office) {
        List<String> found = new ArrayList<>();
        for (Field each : office.getDeclaredFields()) {
            if (!Modifier.isPrivate(each.getModifiers())) {
                boolean isConstant = each.getModifiers() == (Modifier.PUBLIC | Modifier.STATIC | Modifier.FINAL)
                        && each.getType() == int.class;
                found.add(each.getName() + (isConstant ? "" : " is no public int constant"));
            }
        }
        return sorted(found);
    }

    private static List<String> sharedNames(Class<?> office) {
        Set<String> open = new HashSet<>();
        for (Method each : office.getDeclaredMethods()) {
            if (Modifier.isPublic(each.getModifiers())) {
                open.add(each.getName());
            }
        }
        List<String> found = new ArrayList<>();
        for (Class<?> type : withThoseInside(office)) {
            for (Method each : type.getDeclaredMethods()) {
                boolean isOfFace = type == office && Modifier.isPublic(each.getModifiers());
                if (!isOfFace && open.contains(each.getName())) {
                    found.add(type.getSimpleName() + "." + each.getName());
                }
            }
        }
        return found;
    }

    private static List<String> looseStatics(Class<?> office) {
        List<String> found = new ArrayList<>();
        for (Class<?> type : withThoseInside(office)) {
            for (Field each : type.getDeclaredFields()) {
                if (Modifier.isStatic(each.getModifiers()) && !Modifier.isFinal(each.getModifiers())) {
                    found.add(type.getSimpleName() + "." + each.getName());
                }
            }
        }
        return found;
    }

    private static List<Class<?>> withThoseInside(Class<?> office) {
        List<Class<?>> types = new ArrayList<>(Arrays.asList(office.getDeclaredClasses()));
        types.add(office);
        return types;
    }

    private static List<String> sorted(List<String> texts) {
        List<String> copy = new ArrayList<>(texts);
        Collections.sort(copy);
        return copy;
    }
}
