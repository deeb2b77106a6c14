import java.io.IOException;
import java.lang.reflect.Constructor;
import java.lang.reflect.Field;
import java.lang.reflect.Method;
import java.lang.reflect.Modifier;
import java.nio.file.Files;
import java.nio.file.Path;
import java.util.Arrays;
import java.util.Set;
import java.util.TreeSet;
import java.util.regex.Pattern;

/** The class has the document's face and no other, and keeps to what of LANGUAGE.md can be seen from outside. */
public final class FaceTest {
    private static final Checks CHECKS = new Checks("FaceTest");
    private static final String[] FACE = {
        "int sign(int)", "boolean end(int)", "int enters()", "int leaves()", "int plans(int,int,int,int)", "int tires(int)",
        "int begins()", "int odds(int,int,int,int)", "int lifter(int,int,int)", "int called()", "int order()", "int asks(int,int)",
        "int tries(boolean)", "int tried(int,int)", "int place(int)", "int slot(int,int)", "int needs(int,int)", "int mass(int)",
        "int chance(int,int)", "int likeliest(int)", "int beats(int,int)", "int wins(int)", "int bombs(int)", "int opener(int,int,int)",
        "int heavy(int)", "int reach(int,int)", "int aim(int,int)", "int against(int,int)", "int gold(int)",
        "int line(int,int,boolean)", "int duel(int,int)", "int bluff(int,int,int,int)", "int plays(int)", "int often(int,int,int)",
        "int count(int)", "long row(int)"};
    /** What rules 2, 4, 6 and 13 leave out, as far as a word tells it. */
    private static final String[] FORBIDDEN = {"->", "::", "\\bcatch\\b", "\\bfinally\\b", "\\bsynchronized\\b", "\\bassert\\b",
        "\\bSystem\\.(?!arraycopy)", "\\bRandom\\b", "\\bThread\\b", "Exact\\(", "\\bObject\\b", "\\bimport java\\.(?!util\\.Arrays;|util\\.NoSuchElementException;)",
        "\\bstatic\\s*\\{", "\\bdouble\\b", "\\bfloat\\b", "\\.hashCode\\(", "\\btoString\\("};

    public static void main(String[] args) throws IOException {
        face();
        nested();
        source();
        CHECKS.end();
    }

    private static void face() {
        Class<?> type = NextLoad.class;
        CHECKS.due("public and final", type.getModifiers(), Modifier.PUBLIC | Modifier.FINAL);
        Set<String> due = new TreeSet<>(Arrays.asList(FACE));
        Set<String> got = new TreeSet<>();
        Set<String> hidden = new TreeSet<>();
        for (Method m : type.getDeclaredMethods()) {
            if (Modifier.isPrivate(m.getModifiers()) || m.isSynthetic()) {
                hidden.add(m.getName());
            } else {
                CHECKS.due(m + " is public and no more", m.getModifiers(), Modifier.PUBLIC);
                StringBuilder types = new StringBuilder();
                for (Class<?> p : m.getParameterTypes()) {
                    types.append(types.length() > 0 ? "," : "").append(p.getName());
                }
                got.add(m.getReturnType().getName() + " " + m.getName() + "(" + types + ")");
            }
        }
        CHECKS.due("the methods " + got, got.equals(due), true);
        for (String call : FACE) {
            String name = call.substring(call.indexOf(' ') + 1, call.indexOf('('));
            CHECKS.due("a private method named " + name, hidden.contains(name), false);
        }
        Constructor<?>[] made = type.getDeclaredConstructors();
        CHECKS.due("one constructor", made.length, 1);
        CHECKS.due("public", made[0].getModifiers(), Modifier.PUBLIC);
        CHECKS.due("without parameters", made[0].getParameterCount(), 0);
        for (Field f : type.getDeclaredFields()) {
            CHECKS.due(f + " is private", Modifier.isPrivate(f.getModifiers()), !f.getName().equals("NONE"));
        }
        fields(type);
    }

    private static void fields(Class<?> type) {
        int own = 0;
        for (Field f : type.getDeclaredFields()) {
            if (Modifier.isStatic(f.getModifiers())) {
                CHECKS.due(f + " is final", Modifier.isFinal(f.getModifiers()), true);
            } else if (!f.isSynthetic()) {
                own++;
            }
        }
        CHECKS.due(type + " has at most twenty fields", own <= 20, true);
    }

    private static void nested() {
        Class<?>[] all = NextLoad.class.getDeclaredClasses();
        CHECKS.due("at most twelve classes", all.length < 12, true);
        for (Class<?> c : all) {
            int m = c.getModifiers();
            CHECKS.due(c + " is static, not public, not protected",
                Modifier.isStatic(m) && !Modifier.isPublic(m) && !Modifier.isProtected(m), true);
            fields(c);
            for (Method method : c.getDeclaredMethods()) {
                CHECKS.due(method + " takes at most seven", method.getParameterCount() <= 7, true);
            }
        }
    }

    private static void source() throws IOException {
        String text = Files.readString(Path.of("src/main/java/NextLoad.java"));
        String code = text.replaceAll("(?s)/\\*.*?\\*/", "").replaceAll("//[^\n]*", "");
        for (String word : FORBIDDEN) {
            CHECKS.due("the source has " + word, Pattern.compile(word).matcher(code).find(), false);
        }
        for (int i = 0; i < text.length(); i++) {
            if (text.charAt(i) > 126) {
                CHECKS.due("sign at " + i, text.charAt(i), 126);
            }
        }
    }
}
