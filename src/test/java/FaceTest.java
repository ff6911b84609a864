import java.lang.reflect.Constructor;
import java.lang.reflect.Field;
import java.lang.reflect.Method;
import java.lang.reflect.Modifier;
import java.nio.file.Files;
import java.nio.file.Path;
import java.util.ArrayList;
import java.util.Collections;
import java.util.List;
import java.util.regex.Matcher;
import java.util.regex.Pattern;

/** The face of the class: just what the document lists, and nothing else that others could see. */
final class FaceTest {
    private static final Pattern METHOD = Pattern.compile("    public (\\w+ \\w+)\\((.*)\\) throws (.*);");

    public static void main(String[] args) throws Exception {
        Path root = Path.of(args.length > 0 ? args[0] : ".");
        Check.answers("the modifiers of the class", Modifier.PUBLIC | Modifier.FINAL, Countcote.class.getModifiers());
        checkMethods(faceOf(Files.readString(root.resolve("../shared/DOC.md"))));
        checkFields();
        checkConstructors();
        checkClassesInside();
        Check.end("FaceTest");
    }

    /** The methods of the document's face, each in the way in which reflection tells it. */
    private static List<String> faceOf(String document) {
        List<String> face = new ArrayList<>();
        for (String line : document.split("\n")) {
            Matcher method = METHOD.matcher(line);
            if (method.matches()) {
                String types = method.group(2).replaceAll(" \\w+(, |$)", ",").replaceAll(",$", "");
                String thrown = method.group(3).replaceAll("(^|, )(?!java)", ",java.lang.").replace(", ", ",");
                face.add(method.group(1) + "(" + types + ") throws " + thrown.substring(1));
            }
        }
        return face;
    }

    private static void checkMethods(List<String> due) {
        List<String> found = new ArrayList<>();
        List<String> names = new ArrayList<>();
        for (Method method : Countcote.class.getDeclaredMethods()) {
            if (!Modifier.isPrivate(method.getModifiers())) {
                Check.answers("the modifiers of " + method.getName(), Modifier.PUBLIC, method.getModifiers());
                found.add(text(method));
                names.add(method.getName());
            }
        }
        Collections.sort(due);
        Collections.sort(found);
        Check.same("the methods", due.toString(), found.toString());
        checkPrivateNames(Countcote.class, names);
        for (Class<?> inside : Countcote.class.getDeclaredClasses()) {
            checkPrivateNames(inside, names);
        }
    }

    private static String text(Method method) {
        String whole = method.toGenericString();
        return whole.replace("public ", "").replace("Countcote.", "");
    }

    private static void checkPrivateNames(Class<?> owner, List<String> publicNames) {
        for (Method method : owner.getDeclaredMethods()) {
            boolean hidden = owner != Countcote.class || Modifier.isPrivate(method.getModifiers());
            Check.holds(owner.getName() + "." + method.getName() + " has a name of its own",
                    !hidden || !publicNames.contains(method.getName()));
        }
    }

    private static void checkFields() {
        for (Field field : Countcote.class.getDeclaredFields()) {
            boolean constant = field.getName().equals("NONE");
            int due = Modifier.PUBLIC | Modifier.STATIC | Modifier.FINAL;
            if (constant) {
                Check.answers("the modifiers of NONE", due, field.getModifiers());
                Check.same("the type of NONE", "int", field.getType().getName());
            } else {
                Check.holds(field.getName() + " is private", Modifier.isPrivate(field.getModifiers()));
            }
        }
        Check.answers("NONE", -1, Countcote.NONE);
    }

    private static void checkConstructors() {
        Constructor<?>[] constructors = Countcote.class.getDeclaredConstructors();
        Check.answers("the number of constructors", 1, constructors.length);
        Check.answers("the modifiers of the constructor", Modifier.PUBLIC, constructors[0].getModifiers());
        Check.answers("the arguments of the constructor", 0, constructors[0].getParameterCount());
    }

    private static void checkClassesInside() {
        for (Class<?> inside : Countcote.class.getDeclaredClasses()) {
            int modifiers = inside.getModifiers();
            boolean hidden = !Modifier.isPublic(modifiers) && !Modifier.isProtected(modifiers);
            Check.holds(inside.getName() + " is hidden and static", hidden && Modifier.isStatic(modifiers));
        }
    }
}
