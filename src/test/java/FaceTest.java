import java.io.IOException;
import java.lang.reflect.Constructor;
import java.lang.reflect.Field;
import java.lang.reflect.Method;
import java.lang.reflect.Modifier;
import java.nio.file.Files;
import java.nio.file.Path;
import java.util.ArrayList;
import java.util.Collections;
import java.util.List;
import java.util.TreeSet;
import java.util.regex.Matcher;
import java.util.regex.Pattern;

/** The public face of the document, and those rules of LANGUAGE.md that can be looked up. */
public final class FaceTest {
    private static final List<String> METHODS = List.of(
        "about(int):int", "blast(int):int", "buy(int,int):int", "charge(int,int,int,int):int",
        "chargeAt(int,int):int", "count(int):int", "digest():long", "forge(int,int,int):int",
        "hearth(int,int):int", "lose(int,int):int", "month(int,int,int):int", "pace(int,int,int,int):int",
        "paceAt(int):int", "pig(int,int):int", "plan(int,int,int,int):int", "rich(int,int):int",
        "rule(int,boolean,int,int):int", "sale():int", "sell():int", "sign(int):int", "store(int):int",
        "tap():int", "tick(int):int", "unrule():int", "when(int):int");

    public static void main(String[] args) throws IOException {
        constants();
        methods();
        constructor();
        nothingElseIsVisible();
        nestedClasses();
        String source = Files.readString(Path.of("src/main/java/IronCampaign.java"));
        sourceKeepsToTheLanguage(source);
        rowsAreMadeWithTheObject(source);
        Due.end();
    }

    private static void constants() {
        Due.is("NONE", IronCampaign.NONE, -1);
        Due.is("BAD", IronCampaign.BAD, -2);
        Due.is("NO", IronCampaign.NO, -3);
        Due.is("FULL", IronCampaign.FULL, -4);
    }

    private static void methods() {
        List<String> found = new ArrayList<>();
        for (Method m : IronCampaign.class.getDeclaredMethods()) {
            if (!Modifier.isPublic(m.getModifiers())) continue;
            List<String> types = new ArrayList<>();
            for (Class<?> t : m.getParameterTypes()) types.add(t.getName());
            found.add(m.getName() + "(" + String.join(",", types) + "):" + m.getReturnType().getName());
            Due.holds(m.getName() + " is of the object", !Modifier.isStatic(m.getModifiers()));
        }
        Collections.sort(found);
        Due.holds("public methods are " + found, found.equals(METHODS));
    }

    private static void constructor() {
        Constructor<?>[] all = IronCampaign.class.getDeclaredConstructors();
        Due.is("constructors", all.length, 1);
        Due.is("its parameters", all[0].getParameterCount(), 0);
        Due.holds("it is public", Modifier.isPublic(all[0].getModifiers()));
        Due.holds("the class is final", Modifier.isFinal(IronCampaign.class.getModifiers()));
    }

    private static void nothingElseIsVisible() {
        TreeSet<String> visible = new TreeSet<>();
        int fields = 0;
        for (Field f : IronCampaign.class.getDeclaredFields()) {
            if (!Modifier.isPrivate(f.getModifiers())) visible.add(f.getName());
            if (Modifier.isStatic(f.getModifiers())) Due.holds(f + " is final", Modifier.isFinal(f.getModifiers()));
            else fields++;
        }
        Due.holds("visible fields " + visible, visible.equals(new TreeSet<>(List.of("BAD", "FULL", "NO", "NONE"))));
        Due.holds("some twenty fields", fields <= 20);
        for (Method m : IronCampaign.class.getDeclaredMethods()) {
            boolean oneOfTwo = Modifier.isPublic(m.getModifiers()) != Modifier.isPrivate(m.getModifiers());
            Due.holds(m + " is public or private", oneOfTwo);
        }
    }

    private static void nestedClasses() {
        TreeSet<String> face = new TreeSet<>();
        for (String m : METHODS) face.add(m.substring(0, m.indexOf('(')));
        Class<?>[] nested = IronCampaign.class.getDeclaredClasses();
        Due.holds("some twelve classes", nested.length < 12);
        for (Class<?> c : nested) {
            int mods = c.getModifiers();
            Due.holds(c + " is static", Modifier.isStatic(mods));
            Due.holds(c + " is not visible", !Modifier.isPublic(mods) && !Modifier.isProtected(mods));
            Due.holds(c + " has some twenty fields", c.getDeclaredFields().length <= 20);
            for (Method m : c.getDeclaredMethods()) {
                Due.holds(m + " bears no public name", !face.contains(m.getName()));
                Due.holds(m + " takes at most seven", m.getParameterCount() <= 7);
            }
        }
    }

    private static void sourceKeepsToTheLanguage(String source) {
        String code = source.replaceAll("(?s)/\\*.*?\\*/", " ").replaceAll("//[^\\n]*", " ");
        String[] banned = {"throw", "throws", "try", "catch", "finally", "synchronized", "assert", "import", "package",
            "protected", "double", "float", "System", "Exact", "->", "::", "hashCode", "toString"};
        for (String word : banned) {
            boolean isWord = Character.isLetter(word.charAt(0));
            Matcher m = Pattern.compile(isWord ? "\\b" + word + "\\b" : Pattern.quote(word)).matcher(code);
            Due.holds("the source has no " + word, !m.find());
        }
        for (int i = 0; i < source.length(); i++) {
            if (source.charAt(i) > 126) Due.holds("plain characters at " + i, false);
        }
    }

    // All calls of a run share one room, so a row is made as a field is, or in Table's constructor, and nowhere else.
    private static void rowsAreMadeWithTheObject(String source) {
        for (String line : source.split("\n")) {
            String code = line.trim();
            if (code.startsWith("/") || code.startsWith("*") || !code.contains("new ")) continue;
            boolean field = code.matches("private final [\\w\\[\\]]+ \\w+ = new .*");
            Due.holds("made with the object: " + code, field || code.startsWith("this.cells = new int["));
        }
    }
}
