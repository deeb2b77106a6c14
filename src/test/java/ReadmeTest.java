import java.io.IOException;
import java.lang.reflect.Method;
import java.lang.reflect.Modifier;
import java.nio.file.Files;
import java.nio.file.Path;
import java.util.regex.Matcher;
import java.util.regex.Pattern;

/** README.md names every call with as many arguments as it takes, and what it says of its example holds. */
public final class ReadmeTest {
    private static final Checks C = new Checks("ReadmeTest");

    public static void main(String[] args) throws IOException {
        String page = Files.readString(Path.of("README.md"));
        everyCall(page);
        theExample(page);
        C.due("it says how to run the tests", page.contains("    .ci/run\n"), true);
        C.end();
    }

    private static void everyCall(String page) {
        for (Method m : NextLoad.class.getDeclaredMethods()) {
            if (Modifier.isPublic(m.getModifiers())) {
                Matcher named = Pattern.compile("`" + m.getName() + "\\(([a-z, ]*)\\)`").matcher(page);
                boolean found = false;
                while (named.find()) {
                    found |= argumentsOf(named.group(1)) == m.getParameterCount();
                }
                C.due("README.md tells of " + m.getName() + " as it is", found, true);
            }
        }
    }

    private static int argumentsOf(String told) {
        return told.isEmpty() ? 0 : told.split(",").length;
    }

    /** The example's text is taken from the page itself, its answers as the page tells them. */
    private static void theExample(String page) {
        Matcher quoted = Pattern.compile("String text = \"([^\"]*)\";").matcher(page);
        C.due("the example has a text", quoted.find(), true);
        NextLoad meet = new NextLoad();
        C.due("enters()", Checks.enter(meet, quoted.group(1)), 0);
        C.due("called()", meet.called(), 0);
        C.row("called()", meet, 12, 800);
        int mass = meet.mass(0);
        C.due("the best loads are worth no less", meet.heavy(0) >= mass, true);
        C.due("heavy(): by plan", meet.row(1), mass);
        C.due("tries(true)", meet.tries(true), 0);
        C.row("tries(true)", meet, 12, 15);
    }
}
