import java.io.IOException;
import java.lang.reflect.Constructor;
import java.lang.reflect.Field;
import java.lang.reflect.Method;
import java.lang.reflect.Modifier;
import java.nio.file.Files;
import java.nio.file.Path;
import java.util.TreeSet;

/** The class shows the document's face and no more, and keeps to the plainest rules of its Java. */
public final class FaceTest {
    private static final String INDEX = "java.lang.IndexOutOfBoundsException";
    private static final String ARGUMENT = "java.lang.IllegalArgumentException";
    private static final String STATE = "java.lang.IllegalStateException";

    private FaceTest() {
    }

    public static void main(String[] args) throws IOException {
        faceIsTheDocuments();
        classesInsideAreHidden();
        stateIsNotShared();
        sourceKeepsToTheRules();
        Check.finish("FaceTest");
    }

    private static void faceIsTheDocuments() {
        TreeSet<String> due = new TreeSet<>();
        add(due, "int", "field(int,int,int)", ARGUMENT, STATE);
        add(due, "int", "ordinary(int,int,int)", INDEX, ARGUMENT, STATE);
        add(due, "int", "charge(int,int,int,int)", INDEX, ARGUMENT, STATE);
        add(due, "int", "impale(int,int)", INDEX, STATE);
        add(due, "int", "quarter(int,int,int,int)", INDEX, STATE);
        add(due, "int", "over(int,int)", INDEX, STATE);
        add(due, "int", "founder(int)", INDEX, STATE);
        add(due, "int", "born(int,int)", INDEX, ARGUMENT, STATE);
        add(due, "int", "grant(int,int)", INDEX, STATE);
        add(due, "int", "ring()");
        add(due, "int", "at(int,int,int)", INDEX);
        add(due, "int", "bears(int,int,int)", INDEX);
        add(due, "int", "ofArms(int,int)", INDEX, ARGUMENT);
        add(due, "int", "ofPerson(int,int)", INDEX, ARGUMENT);
        add(due, "java.lang.String", "blazon(int)", INDEX);
        add(due, "java.lang.String", "row(int,int)", INDEX);
        add(due, "double", "share(int,int)", INDEX, ARGUMENT);
        add(due, "int", "many(int)", ARGUMENT);
        add(due, "int", "apart(int,int)", INDEX);
        add(due, "int", "nearest(int)", INDEX);
        add(due, "int", "would(int,int,int,int)", INDEX, ARGUMENT);
        add(due, "int", "best(int,boolean)", INDEX, STATE);
        add(due, "long", "digest()");
        TreeSet<String> got = new TreeSet<>();
        TreeSet<String> names = new TreeSet<>();
        for (Method method : Blazonhall.class.getDeclaredMethods()) {
            if (!Modifier.isPrivate(method.getModifiers())) {
                got.add(method.toString());
                names.add(method.getName());
            }
        }
        Check.due("the face", got, due);
        for (Method method : Blazonhall.class.getDeclaredMethods()) {
            if (Modifier.isPrivate(method.getModifiers())) {
                Check.due(method.getName() + " bears a public name",
                        names.contains(method.getName()), false);
            }
        }
        Check.due("public and final", Blazonhall.class.getModifiers(),
                Modifier.PUBLIC | Modifier.FINAL);
        Constructor<?>[] constructors = Blazonhall.class.getDeclaredConstructors();
        Check.due("constructors", constructors.length, 1);
        Check.due("constructor", constructors[0].toString(), "public Blazonhall()");
    }

    private static void add(TreeSet<String> due, String type, String call, String... exceptions) {
        String thrown = exceptions.length == 0 ? "" : " throws " + String.join(",", exceptions);
        due.add("public " + type + " Blazonhall." + call + thrown);
    }

    private static void classesInsideAreHidden() {
        for (Class<?> inside : Blazonhall.class.getDeclaredClasses()) {
            int modifiers = inside.getModifiers();
            Check.due(inside + " is hidden", Modifier.isPublic(modifiers)
                    || Modifier.isProtected(modifiers), false);
            Check.due(inside + " is static", Modifier.isStatic(modifiers), true);
        }
        for (Field field : Blazonhall.class.getDeclaredFields()) {
            Check.due(field + " is private", Modifier.isPrivate(field.getModifiers()), true);
        }
    }

    private static void stateIsNotShared() {
        Blazonhall one = new Blazonhall();
        one.field(0, 0, 0);
        one.founder(0);
        one.ring();
        Blazonhall other = new Blazonhall();
        Check.due("an object of its own", other.many(0) + other.many(1) + other.many(6), 0);
        for (Field field : Blazonhall.class.getDeclaredFields()) {
            boolean isStatic = Modifier.isStatic(field.getModifiers());
            Check.due(field + " is final, if static",
                    !isStatic || Modifier.isFinal(field.getModifiers()), true);
        }
    }

    private static void sourceKeepsToTheRules() throws IOException {
        String source = Files.readString(Path.of("src/main/java/Blazonhall.java"));
        String[] ruledOut = {"->", "::", "catch", "finally", "synchronized", "assert", "System.",
            "Exact(", "static {", "package ", "Random", "getMessage", "hashCode", "toString"};
        for (String piece : ruledOut) {
            Check.due("the source has '" + piece + "'", source.contains(piece), false);
        }
        for (String line : source.split("\n")) {
            if (line.startsWith("import ")) {
                Check.due("import", line, "import java.util.ArrayList;");
            }
        }
        Check.due("signs of the source alone", source.chars().allMatch(c -> c < 128), true);
    }
}
