import java.io.File;
import java.io.IOException;
import java.lang.reflect.Method;
import java.lang.reflect.Modifier;
import java.nio.charset.StandardCharsets;
import java.nio.file.Files;
import java.nio.file.Path;
import java.util.ArrayList;
import java.util.List;

/** README.md's example answers what it says, and the page names each call and each test. */
public final class WrestleBookReadme {
    private static final Path PAGE = Path.of("README.md");
    private static final File TESTS = new File("src/test/java");

    private static int checks = 0;
    private static int wrong = 0;

    public static void main(String[] args) throws IOException {
        String page = Files.readString(PAGE, StandardCharsets.UTF_8);
        example(page);
        calls(page);
        tests(page);
        System.out.println(wrong == 0 ? checks + " things of README.md are as due"
            : wrong + " of " + checks + " things of README.md are not as due");
        if (wrong != 0) {
            System.exit(1);
        }
    }

    private static void example(String page) {
        List<String> told = lines(page);
        List<String> due = answers();
        due("lines of the example", told.size(), due.size());
        for (int i = 0; i < Math.min(told.size(), due.size()); i++) {
            due("line " + (i + 1) + " of the example", told.get(i), due.get(i));
        }
    }

    /** The lines of the page's example as "call // answer", without what is said behind the answer. */
    private static List<String> lines(String page) {
        List<String> lines = new ArrayList<>();
        int from = page.indexOf("```java\n") + "```java\n".length();
        for (String line : page.substring(from, page.indexOf("```", from)).split("\n")) {
            int remark = line.indexOf("//");
            if (remark < 0) {
                lines.add(line);
                continue;
            }
            String answer = line.substring(remark + 2).split(":")[0].trim();
            lines.add(line.substring(0, remark).trim() + " // " + answer);
        }
        return lines;
    }

    private static List<String> answers() {
        List<String> due = new ArrayList<>();
        due.add("WrestleBook book = new WrestleBook();");
        WrestleBook book = new WrestleBook();
        int ann = book.join(0);
        due.add("int ann = book.join(0); // " + ann);
        int ben = book.join(0);
        due.add("int ben = book.join(0); // " + ben);
        int cat = book.join(1);
        due.add("int cat = book.join(1); // " + cat);
        due.add("book.rate(ann, 1150); // " + book.rate(ann, 1150));
        due.add("book.expected(ann, ben); // " + book.expected(ann, ben));
        due.add("book.would(ann, ben, 0, 1); // " + book.would(ann, ben, 0, 1));
        due.add("book.bout(ann, ben, 0); // " + book.bout(ann, ben, 0));
        due.add("book.told(ben, 0); // " + book.told(ben, 0));
        due.add("book.count(3); // " + book.count(3));
        due.add("book.at(0, 1); // " + book.at(0, 1));
        due.add("book.bout(cat, ann, 2); // " + book.bout(cat, ann, 2));
        due.add("book.match(ann); // " + book.match(ann));
        due.add("book.chance(ann, ben, 3); // " + book.chance(ann, ben, 3));
        due.add("book.next(); // " + book.next());
        due.add("book.foresee(1); // " + book.foresee(1));
        due.add("book.end(); // " + book.end());
        due.add("book.mean(); // " + book.mean());
        return due;
    }

    private static void calls(String page) {
        for (Method method : WrestleBook.class.getDeclaredMethods()) {
            if (Modifier.isPublic(method.getModifiers())) {
                due("it names " + method.getName(), page.contains("| `" + method.getName() + "("), true);
            }
        }
    }

    private static void tests(String page) {
        String[] files = TESTS.list();
        due("there are tests", files != null && files.length > 0, true);
        for (String file : files == null ? new String[0] : files) {
            due("it names " + file, page.contains("- `src/test/java/" + file + "`:"), true);
        }
    }

    private static void due(String what, Object got, Object want) {
        checks++;
        if (!got.equals(want)) {
            wrong++;
            System.out.println(what + " is " + got + ", due is " + want);
        }
    }
}
