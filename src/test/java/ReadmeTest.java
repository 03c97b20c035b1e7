import java.io.IOException;
import java.lang.reflect.Method;
import java.lang.reflect.Modifier;
import java.nio.file.Files;
import java.nio.file.Path;

/** The page for users: its example answers what it says, and it names every call. */
public final class ReadmeTest {
    private ReadmeTest() {
    }

    public static void main(String[] args) throws IOException {
        String page = Files.readString(Path.of("README.md"));
        exampleIsOnThePage(page);
        exampleHolds();
        everyCallIsNamed(page);
        Check.finish("ReadmeTest");
    }

    /** The lines that exampleHolds goes through, so that the page cannot change without it. */
    private static void exampleIsOnThePage(String page) {
        String[] lines = {
            "Blazonhall hall = new Blazonhall();",
            "int azure = hall.field(0, 3, 0);        // plain Azure",
            "hall.ordinary(azure, 3, 0);             // a bend Or; answers its faults, 0",
            "int ermine = hall.field(0, 7, 0);",
            "hall.charge(ermine, 0, 1, 2);           // a lion Gules",
            "int both = hall.impale(azure, ermine);",
            "hall.blazon(both);                      "
                + "// \"[Azure, a bend Or impaling Ermine, a lion Gules]\"",
            "int first = hall.founder(azure);",
            "int other = hall.founder(ermine);",
            "int child = hall.born(first, other);",
            "hall.row(child, 0);                     // \"OZZZEEEE\"",
        };
        String example = "```java\n" + String.join("\n", lines) + "\n```";
        Check.due("the page has the example", page.contains(example), true);
    }

    private static void exampleHolds() {
        Blazonhall hall = new Blazonhall();
        int azure = hall.field(0, 3, 0);
        Check.due("plain", hall.blazon(azure), "Azure");
        Check.due("its faults", hall.ordinary(azure, 3, 0), 0);
        Check.due("a bend", hall.blazon(azure), "Azure, a bend Or");
        int ermine = hall.field(0, 7, 0);
        hall.charge(ermine, 0, 1, 2);
        Check.due("a lion", hall.blazon(ermine), "Ermine, a lion Gules");
        int both = hall.impale(azure, ermine);
        Check.due("both", hall.blazon(both), "[Azure, a bend Or impaling Ermine, a lion Gules]");
        int first = hall.founder(azure);
        int other = hall.founder(ermine);
        int child = hall.born(first, other);
        Check.due("the child's first row", hall.row(child, 0), "OZZZEEEE");
    }

    private static void everyCallIsNamed(String page) {
        for (Method method : Blazonhall.class.getDeclaredMethods()) {
            if (Modifier.isPublic(method.getModifiers())) {
                String call = "`" + method.getName() + "(";
                Check.due("the page names " + call, page.contains(call), true);
            }
        }
    }
}
