import java.lang.reflect.Constructor;
import java.lang.reflect.Field;
import java.lang.reflect.Method;
import java.lang.reflect.Modifier;
import java.util.ArrayList;
import java.util.Collections;
import java.util.List;

/** The face of the class: just what the document lists, and nothing else that others could see. */
final class FaceTest {
    private static final String INDEX = " throws java.lang.IndexOutOfBoundsException";
    private static final String ARGUMENT = INDEX + ",java.lang.IllegalArgumentException";
    private static final String STATE = ARGUMENT + ",java.lang.IllegalStateException";
    private static final String ELEMENT = ARGUMENT + ",java.util.NoSuchElementException";

    private static final String[] FACE = {
        "int add(int,int,int)" + STATE,
        "int merge(int,int)" + STATE,
        "int clear(int)" + INDEX,
        "int total(int)" + INDEX,
        "int count(int,int)" + INDEX,
        "int countOfRange(int,int,int)" + ARGUMENT,
        "long product(int,int)" + INDEX,
        "int column(int,int)" + INDEX,
        "int cell(int,int,int,int)" + INDEX,
        "int estimate(int,int,int)" + INDEX,
        "double share(int,int)" + INDEX,
        "int parts(int,int)" + ARGUMENT,
        "int estimateOfRange(int,int,int)" + ARGUMENT,
        "int frequent(int,int)" + ARGUMENT,
        "int frequentAt(int,int,int)" + ELEMENT,
        "int itemOfRank(int,int)" + ARGUMENT,
        "int signedColumn(int,int)" + INDEX,
        "int sign(int,int)" + INDEX,
        "int signedCell(int,int,int)" + INDEX,
        "int signedEstimate(int,int)" + INDEX,
        "long signedProduct(int,int)" + INDEX,
        "int counters(int)" + INDEX,
        "int counterItem(int,int)" + INDEX,
        "int counterOf(int,int)" + INDEX,
        "int taken(int)" + INDEX,
    };

    public static void main(String[] args) {
        Check.answers("the modifiers of the class", Modifier.PUBLIC | Modifier.FINAL, Countcote.class.getModifiers());
        checkMethods();
        checkFields();
        checkConstructors();
        checkClassesInside();
        Check.end("FaceTest");
    }

    private static void checkMethods() {
        List<String> due = new ArrayList<>(List.of(FACE));
        List<String> found = new ArrayList<>();
        List<String> names = new ArrayList<>();
        for (Method method : Countcote.class.getDeclaredMethods()) {
            if (!Modifier.isPrivate(method.getModifiers())) {
                Check.answers("the modifiers of " + method.getName(), Modifier.PUBLIC, method.getModifiers());
                found.add(text(method));
                names.add(method.getName());
            }
        }
        Collections.sort(due);
        Collections.sort(found);
        Check.same("the methods", due.toString(), found.toString());
        checkPrivateNames(Countcote.class, names);
        for (Class<?> inside : Countcote.class.getDeclaredClasses()) {
            checkPrivateNames(inside, names);
        }
    }

    private static String text(Method method) {
        String whole = method.toGenericString();
        return whole.replace("public ", "").replace("Countcote.", "");
    }

    private static void checkPrivateNames(Class<?> owner, List<String> publicNames) {
        for (Method method : owner.getDeclaredMethods()) {
            boolean hidden = owner != Countcote.class || Modifier.isPrivate(method.getModifiers());
            Check.holds(owner.getName() + "." + method.getName() + " has a name of its own",
                    !hidden || !publicNames.contains(method.getName()));
        }
    }

    private static void checkFields() {
        for (Field field : Countcote.class.getDeclaredFields()) {
            boolean constant = field.getName().equals("NONE");
            int due = Modifier.PUBLIC | Modifier.STATIC | Modifier.FINAL;
            if (constant) {
                Check.answers("the modifiers of NONE", due, field.getModifiers());
                Check.same("the type of NONE", "int", field.getType().getName());
            } else {
                Check.holds(field.getName() + " is private", Modifier.isPrivate(field.getModifiers()));
            }
        }
        Check.answers("NONE", -1, Countcote.NONE);
    }

    private static void checkConstructors() {
        Constructor<?>[] constructors = Countcote.class.getDeclaredConstructors();
        Check.answers("the number of constructors", 1, constructors.length);
        Check.answers("the modifiers of the constructor", Modifier.PUBLIC, constructors[0].getModifiers());
        Check.answers("the arguments of the constructor", 0, constructors[0].getParameterCount());
    }

    private static void checkClassesInside() {
        for (Class<?> inside : Countcote.class.getDeclaredClasses()) {
            int modifiers = inside.getModifiers();
            boolean hidden = !Modifier.isPublic(modifiers) && !Modifier.isProtected(modifiers);
            Check.holds(inside.getName() + " is hidden and static", hidden && Modifier.isStatic(modifiers));
        }
    }
}
