import java.lang.reflect.Constructor;
import java.lang.reflect.Field;
import java.lang.reflect.Method;
import java.lang.reflect.Modifier;
import java.nio.file.Files;
import java.nio.file.Path;
import java.util.Arrays;
import java.util.Set;
import java.util.TreeSet;
import java.util.regex.Matcher;
import java.util.regex.Pattern;

/** The face of the class, and those rules of LANGUAGE.md that can be seen in the text or by reflection. */
public final class RulesTest {
    private static final Path SOURCE = Path.of("src/main/java/GuildBanner.java");
    private static final String[] FACE = {
        "int feed(int,int,int,int,int)", "int end(int)", "int town()", "int fault(int)", "int guild(int,int)",
        "int corner(int,int)", "int place(int)", "int strain(int,int)", "int step()", "int reef(int,int)",
        "int child(int,int)", "boolean swap(int,int)", "int under(int,int)", "int part(int)", "int day()",
        "boolean undo()", "boolean redo()", "int will(int,int)", "int far(int)", "int least(int)", "int largest()",
        "int street()", "int host(int,int)", "int rivals(int,int)", "int pairs()", "int need(int)", "int bears(int)",
        "int shield()", "int law(int)", "int worst()", "int narrow()", "int odds(int,int)", "int lies(int)",
        "int seen(int,int,boolean)", "boolean untell(int)", "int later(int)", "int fits(int)", "int sure(int,int)",
        "int ask(int,int)", "int image(int)", "int back(int)", "int about(int)"};
    private static final String[] BANNED = {"throw", "throws", "try", "catch", "synchronized", "assert", "import",
        "package", "protected", "Exact", "instanceof", "new Object", "->", "::", "Random", "Thread"};

    public static void main(String[] args) throws Exception {
        face();
        members();
        text(Files.readString(SOURCE));
        Due.finish("RulesTest");
    }

    private static void face() {
        Set<String> publics = new TreeSet<>();
        Set<String> publicNames = new TreeSet<>();
        for (Method m : GuildBanner.class.getDeclaredMethods()) {
            if (Modifier.isPublic(m.getModifiers())) {
                Due.is(m + " is not static", Modifier.isStatic(m.getModifiers()), false);
                publics.add(signature(m));
                publicNames.add(m.getName());
            }
        }
        Set<String> due = new TreeSet<>(Arrays.asList(FACE));
        Due.is("the methods of the face: " + publics, publics.equals(due), true);
        Due.is("the class is public and final",
                GuildBanner.class.getModifiers() == (Modifier.PUBLIC | Modifier.FINAL), true);
        Due.is("constructors", GuildBanner.class.getDeclaredConstructors().length, 1);
        for (Constructor<?> c : GuildBanner.class.getConstructors()) {
            Due.is("the constructor takes nothing", c.getParameterCount(), 0);
        }
        for (Class<?> inside : GuildBanner.class.getDeclaredClasses()) {
            Due.is(inside + " is static", Modifier.isStatic(inside.getModifiers()), true);
            for (Method m : inside.getDeclaredMethods()) {
                Due.is(m + " bears a public name", publicNames.contains(m.getName()), false);
            }
        }
    }

    private static String signature(Method m) {
        StringBuilder text = new StringBuilder(m.getReturnType() + " " + m.getName() + "(");
        for (Class<?> type : m.getParameterTypes()) {
            text.append(text.toString().endsWith("(") ? "" : ",").append(type);
        }
        return text.append(")").toString();
    }

    private static void members() {
        for (Method m : GuildBanner.class.getDeclaredMethods()) {
            boolean known = Modifier.isPublic(m.getModifiers()) || Modifier.isPrivate(m.getModifiers());
            Due.is(m + " is public or private", known, true);
        }
        for (Field f : GuildBanner.class.getDeclaredFields()) {
            boolean known = f.getName().equals("NONE") || Modifier.isPrivate(f.getModifiers());
            Due.is(f + " is private", known, true);
        }
        Class<?>[] inside = GuildBanner.class.getDeclaredClasses();
        Due.is("at most twelve classes", inside.length < 12, true);
        for (Class<?> c : inside) {
            long fields = Arrays.stream(c.getDeclaredFields())
                    .filter(f -> !Modifier.isStatic(f.getModifiers())).count();
            Due.is(c + " has at most twenty fields", fields <= 20, true);
            for (Field f : c.getDeclaredFields()) {
                boolean fine = !Modifier.isStatic(f.getModifiers()) || Modifier.isFinal(f.getModifiers());
                Due.is(f + " is final, if static", fine, true);
            }
            for (Method m : c.getDeclaredMethods()) {
                Due.is(m + " takes at most seven", m.getParameterCount() <= 7, true);
            }
        }
    }

    private static void text(String source) {
        String code = source.replaceAll("(?s)/\\*.*?\\*/", "").replaceAll("//[^\n]*", "");
        for (String word : BANNED) {
            String edge = Character.isLetter(word.charAt(0)) ? "\\b" : "";
            Matcher m = Pattern.compile(edge + Pattern.quote(word) + edge).matcher(code);
            Due.is("'" + word + "' stands in the code", m.find(), false);
        }
        Due.is("signs of the text are 10 and 32 to 126", source.matches("[\\n -~]*"), true);
        int start = 0;
        String[] lines = code.split("\n", -1);
        for (int i = 0; i < lines.length; i++) {
            if (lines[i].matches("    (    )?\\w.*\\) \\{")) {
                start = i;
            } else if (lines[i].matches("    (    )?\\}")) {
                Due.is("lines of the method at " + lines[start].trim(), i - start > 60 ? i - start : 0, 0);
            }
        }
    }
}
