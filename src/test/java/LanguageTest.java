import java.lang.reflect.Constructor;
import java.lang.reflect.Field;
import java.lang.reflect.Method;
import java.lang.reflect.Modifier;
import java.nio.charset.StandardCharsets;
import java.nio.file.Files;
import java.nio.file.Path;
import java.util.Set;
import java.util.TreeSet;
import java.util.regex.Matcher;
import java.util.regex.Pattern;

/** The face of the document, and those rules of LANGUAGE.md that can be seen in the source or the class. */
public final class LanguageTest {
    private static final String[] FACE = {
        "feed(long)", "end(int)", "land()", "fault()", "rule(int)", "tower(int,int)", "hill(int)", "note(int,int)",
        "wind(int,int)", "carry(int,int)", "move(int,int)", "takes(int,int)", "blow(int,int,int)", "silence()",
        "blown(int,int)", "heard(int,int,boolean)", "span(int,int)", "plays(int)", "right(int)", "rights(int)",
        "off(int)", "near(int,int)", "twice(int,int,int)", "both(int,int,int)", "fewest(int)", "pipes(int)", "men()",
        "runs(int,int)", "noted(int)", "forget()", "watch(int,int)", "lost(int)", "fits(int)", "keep(int)", "back(int)",
        "sheet(int,int,int)", "lay(int,int,int)", "read(int,int,int,int)", "torn()", "count(int)"};
    private static final Check check = new Check();

    public static void main(String[] args) throws Exception {
        face();
        nested();
        String source = Files.readString(Path.of("src/main/java/ChurchOrgan.java"), StandardCharsets.ISO_8859_1);
        String code = source.replaceAll("(?s)/\\*.*?\\*/", "").replaceAll("//[^\n]*", "");
        words(code);
        lengths(code);
        check.finish();
    }

    private static String told(Method m) {
        StringBuilder text = new StringBuilder(m.getName()).append('(');
        for (Class<?> kind : m.getParameterTypes()) {
            text.append(text.charAt(text.length() - 1) == '(' ? "" : ",").append(kind.getName());
        }
        return text.append(')').toString();
    }

    private static void face() throws Exception {
        Class<?> face = ChurchOrgan.class;
        check.due("public final", face.getModifiers() & (Modifier.PUBLIC | Modifier.FINAL), Modifier.PUBLIC | Modifier.FINAL);
        Set<String> open = new TreeSet<>();
        for (Method m : face.getDeclaredMethods()) {
            if (!Modifier.isPrivate(m.getModifiers()) && !m.isSynthetic()) {
                open.add(told(m));
                check.due(m + " is public, of an object, an int",
                    Modifier.isPublic(m.getModifiers()) && !Modifier.isStatic(m.getModifiers()) && m.getReturnType() == int.class ? 1 : 0, 1);
            }
        }
        check.due("the methods of the face: " + open, open.equals(new TreeSet<>(Set.of(FACE))) ? 1 : 0, 1);
        for (Constructor<?> c : face.getDeclaredConstructors()) {
            check.due("constructor " + c, c.getParameterCount() == 0 && Modifier.isPublic(c.getModifiers()) ? 1 : 0, 1);
        }
        for (Field f : face.getDeclaredFields()) {
            boolean constant = Set.of("BAD", "STATE", "FULL", "NONE").contains(f.getName());
            check.due("field " + f, Modifier.isPublic(f.getModifiers()) == constant
                && (constant || Modifier.isPrivate(f.getModifiers())) ? 1 : 0, 1);
        }
        check.due("BAD", ChurchOrgan.BAD, -1);
        check.due("STATE", ChurchOrgan.STATE, -2);
        check.due("FULL", ChurchOrgan.FULL, -3);
        check.due("NONE", ChurchOrgan.NONE, -4);
    }

    private static void nested() {
        Set<String> names = new TreeSet<>();
        for (String told : FACE) names.add(told.substring(0, told.indexOf('(')));
        Class<?>[] inside = ChurchOrgan.class.getDeclaredClasses();
        check.due("at most twelve classes", inside.length + 1 <= 12 ? 1 : 0, 1);
        for (Class<?> c : inside) {
            check.due(c + " is static", Modifier.isStatic(c.getModifiers()) ? 1 : 0, 1);
            check.due(c + " is not open", c.getModifiers() & (Modifier.PUBLIC | Modifier.PROTECTED), 0);
            int fields = 0;
            for (Field f : c.getDeclaredFields()) {
                check.due(f + ": what is static is final",
                    !Modifier.isStatic(f.getModifiers()) || Modifier.isFinal(f.getModifiers()) ? 1 : 0, 1);
                if (!Modifier.isStatic(f.getModifiers())) fields++;
            }
            check.due(c + " has few fields", fields <= 20 ? 1 : 0, 1);
            for (Method m : c.getDeclaredMethods()) {
                check.due(m + " bears no name of the face", names.contains(m.getName()) ? 1 : 0, 0);
                check.due(m + " has few parameters", m.getParameterCount() <= 7 ? 1 : 0, 1);
            }
        }
        for (Method m : ChurchOrgan.class.getDeclaredMethods()) {
            check.due(m + " has few parameters", m.getParameterCount() <= 7 ? 1 : 0, 1);
            if (Modifier.isPrivate(m.getModifiers())) {
                check.due(m + " bears no name of the face", names.contains(m.getName()) ? 1 : 0, 0);
            }
        }
    }

    private static void words(String code) {
        String[] refused = {"\\bthrow\\b", "\\btry\\b", "\\bcatch\\b", "\\bsynchronized\\b", "\\bassert\\b", "\\bimport\\b",
            "\\bpackage\\b", "->", "::", "Exact\\b", "\\bvar\\b", "\\bhashCode\\b", "\\btoString\\b", "\\bObject\\b",
            "\\bstatic\\s*\\{", "\\bThread\\b", "\\bnanoTime\\b", "\\bprotected\\b", "\\bdouble\\b", "\\bfloat\\b"};
        for (String word : refused) {
            check.due("the source has " + word, Pattern.compile(word).matcher(code).find() ? 1 : 0, 0);
        }
        Matcher library = Pattern.compile("\\b(Math|Integer|Long|System|Arrays)\\.(\\w+)").matcher(code);
        Set<String> fine = Set.of("Math.max", "Math.min", "Math.abs", "Integer.bitCount", "System.arraycopy");
        while (library.find()) {
            check.due("library " + library.group(), fine.contains(library.group()) ? 1 : 0, 1);
        }
        for (int i = 0; i < code.length(); i++) {
            if (code.charAt(i) > 126) check.due("sign at " + i, code.charAt(i), ' ');
        }
        // all is made with the object, nothing by a call
        Matcher made = Pattern.compile("\n[^\n]*\\bnew\\b[^\n]*").matcher(code);
        while (made.find()) {
            boolean field = made.group().matches("\\s*(private )?(final )?\\S+ \\w+ = new [^;]*;");
            boolean inConstructor = made.group().matches("\\s*(images|sheets)\\[k\\] = new \\w+\\(\\);");
            check.due("made:" + made.group(), field || inConstructor ? 1 : 0, 1);
        }
    }

    private static void lengths(String code) {
        int from = -1;
        String[] lines = code.split("\n", -1);
        String head = "";
        for (int i = 0; i < lines.length; i++) {
            boolean opens = lines[i].matches("( {4}| {8})\\S[^=;]*\\([^;=]*\\) \\{") && !lines[i].matches("\\s*(if|for|while|switch)\\b.*");
            if (opens) {
                from = i;
                head = lines[i];
            }
            if (from >= 0 && lines[i].matches("( {4}| {8})\\}") && lines[i].indexOf('}') == head.indexOf(head.trim())) {
                check.due("a short method:" + head, i - from < 60 ? 1 : 0, 1);
                from = -1;
            }
        }
    }
}
