import java.io.IOException;
import java.lang.reflect.Constructor;
import java.lang.reflect.Field;
import java.lang.reflect.Method;
import java.lang.reflect.Modifier;
import java.nio.file.Files;
import java.nio.file.Path;
import java.util.HashSet;
import java.util.Set;
import java.util.TreeSet;
import java.util.regex.Matcher;
import java.util.regex.Pattern;

/** The class shows the document's face and nothing else, and keeps to the rules of LANGUAGE.md that can be looked for. */
public final class FaceTest {
    private static final String METHODS = "write(int) wipe() fault() reel() drawing(int,int) level(int,int) where(int,int)"
        + " redraw(int,int,int) delay(int,int) pan(int,int,int,int) swap(int,int) back() undo() exposed(int,int) order(int)"
        + " look(int,int) ask(int) judge(int,long) see(int,int,int) unsee() which() share(int,boolean)"
        + " lost(int,int,int,boolean) seed(long) looks(int) keep(int) again(int) count(int)";

    private static final Check check = new Check();

    public static void main(String[] args) throws IOException {
        face();
        inside();
        source(Files.readString(Path.of("src/main/java/CelSheets.java")));
        check.end();
    }

    private static void face() {
        Class<?> face = CelSheets.class;
        check.holds("public and final", Modifier.isPublic(face.getModifiers()) && Modifier.isFinal(face.getModifiers()));
        Set<String> shown = new TreeSet<>();
        for (Method m : face.getDeclaredMethods()) {
            if (Modifier.isPrivate(m.getModifiers())) continue;
            StringBuilder s = new StringBuilder(m.getName()).append('(');
            for (Class<?> p : m.getParameterTypes()) s.append(s.charAt(s.length() - 1) == '(' ? "" : ",").append(p.getName());
            shown.add(s.append(')').toString());
            boolean asTold = m.getReturnType() == (m.getName().equals("seed") ? long.class : int.class);
            check.holds(m.getName() + " is public and answers as told", asTold && Modifier.isPublic(m.getModifiers()));
        }
        check.holds("the methods are " + shown, shown.equals(new TreeSet<>(Set.of(METHODS.split(" ")))));
        Set<String> constants = new TreeSet<>();
        for (Field f : face.getDeclaredFields()) {
            if (!Modifier.isPrivate(f.getModifiers())) constants.add(f.getName());
            if (Modifier.isStatic(f.getModifiers())) check.holds(f.getName() + " is final", Modifier.isFinal(f.getModifiers()));
        }
        check.holds("the constants are " + constants, constants.equals(Set.of("UNKNOWN", "OUTSIDE", "STATE", "FULL", "NONE")));
        Constructor<?>[] made = face.getDeclaredConstructors();
        check.holds("one public constructor", made.length == 1 && Modifier.isPublic(made[0].getModifiers()));
    }

    private static void inside() {
        Set<String> open = new HashSet<>();
        for (String m : METHODS.split(" ")) open.add(m.substring(0, m.indexOf('(')));
        check.holds("some twelve classes", CelSheets.class.getDeclaredClasses().length < 12);
        for (Class<?> c : CelSheets.class.getDeclaredClasses()) {
            check.holds(c + " is static and not public", Modifier.isStatic(c.getModifiers()) && !Modifier.isPublic(c.getModifiers()));
            int fields = 0;
            for (Field f : c.getDeclaredFields()) if (!Modifier.isStatic(f.getModifiers())) fields++;
            check.holds(c + " has few fields", fields <= 20);
            for (Method m : c.getDeclaredMethods()) {
                check.holds(m + " bears no name of the face", !open.contains(m.getName()));
                check.holds(m + " has few parameters", m.getParameterCount() <= 7);
            }
        }
        for (Method m : CelSheets.class.getDeclaredMethods()) {
            boolean hidden = Modifier.isPrivate(m.getModifiers());
            check.holds(m + " bears no name of the face", !hidden || !open.contains(m.getName()));
        }
    }

    private static void source(String text) {
        String code = text.replaceAll("(?s)/\\*.*?\\*/", "").replaceAll("//[^\n]*", "");
        for (String word : new String[] {"throw", "throws", "try", "catch", "synchronized", "assert", "import", "package", "native", "volatile"}) {
            check.holds("no " + word, !Pattern.compile("\\b" + word + "\\b").matcher(code).find());
        }
        for (String sign : new String[] {"->", "::", "\"", "Exact", "@", "System.out", "MAX_VALUE", "MIN_VALUE"}) {
            check.holds("no " + sign, !code.contains(sign));
        }
        check.holds("signs 1 to 127 alone", text.chars().allMatch(c -> c > 0 && c < 128));
        Matcher library = Pattern.compile("\\b(System|Math|Integer|Long|Arrays)\\.(\\w+)").matcher(code);
        while (library.find()) {
            check.holds("library: " + library.group(), Set.of("System.arraycopy", "Math.max", "Math.min").contains(library.group()));
        }
        for (String line : code.split("\n")) {
            boolean made = line.matches(".*\\bnew\\b.*");
            check.holds("made with the object, not by a call: " + line, !made || line.matches(" +(private )?final \\w+(\\[])? \\w+ = new .*"));
        }
        methodsAreShort(code);
    }

    private static void methodsAreShort(String code) {
        int begun = 0;
        String[] lines = code.split("\n");
        for (int i = 0; i < lines.length; i++) {
            if (lines[i].matches(" {4}(    )?[a-z].*\\) \\{")) begun = i;
            check.holds("line " + (i + 1) + " is in a short method", !lines[i].matches(" {4}(    )?}") || i - begun <= 60 || lines[i].matches(" {4}}"));
        }
    }
}
