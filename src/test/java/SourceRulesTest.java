import java.io.IOException;
import java.lang.reflect.Constructor;
import java.lang.reflect.Field;
import java.lang.reflect.Method;
import java.lang.reflect.Modifier;
import java.nio.charset.StandardCharsets;
import java.nio.file.Files;
import java.nio.file.Path;
import java.util.ArrayList;
import java.util.Arrays;
import java.util.List;
import java.util.Set;
import java.util.TreeSet;
import java.util.regex.Matcher;
import java.util.regex.Pattern;

/** The rules of LANGUAGE.md that can be seen from the class and from its text, and the document's face. */
public final class SourceRulesTest {
    private static final Check CHECK = new Check();
    private static final String FACE = "person/1 of/2 stick/6 at/2 foil/2 half/2 terms/2 feed/5 end/1 row/0 chips/0 law/0 "
            + "orders/0 fault/0 stopped/0 force/1 asks/2 give/2 call/1 shave/2 pass/0 undo/0 fit/3 match/1 odd/0 apart/1 "
            + "told/3 settle/1 ring/1 chain/2 calls/1 years/2 drawn/2 image/1 back/1 count/1 status/0";

    public static void main(String[] args) throws IOException {
        String text = Files.readString(Path.of("src/main/java/TallySticks.java"), StandardCharsets.ISO_8859_1);
        List<Class<?>> classes = new ArrayList<>();
        classes.add(TallySticks.class);
        classes.addAll(Arrays.asList(TallySticks.class.getDeclaredClasses()));
        face();
        members(classes);
        words(withoutComments(text));
        lengths(text);
        CHECK.finish("SourceRulesTest");
    }

    private static void face() {
        Set<String> found = new TreeSet<>();
        for (Method m : TallySticks.class.getDeclaredMethods()) {
            if (!Modifier.isPrivate(m.getModifiers())) {
                found.add(m.getName() + "/" + m.getParameterCount());
                CHECK.so(m + " is public and answers int", Modifier.isPublic(m.getModifiers()) && m.getReturnType() == int.class);
            }
        }
        Set<String> wanted = new TreeSet<>(Arrays.asList(FACE.split(" ")));
        CHECK.so("the face is " + wanted + ", found " + found, found.equals(wanted));
        CHECK.so("public and final", TallySticks.class.getModifiers() == (Modifier.PUBLIC | Modifier.FINAL));
        CHECK.so("one constructor", TallySticks.class.getDeclaredConstructors().length == 1);
        CHECK.so("public constants", TallySticks.class.getFields().length == 2);
    }

    private static void members(List<Class<?>> classes) {
        Set<String> publicNames = new TreeSet<>();
        for (String method : FACE.split(" ")) {
            publicNames.add(method.substring(0, method.indexOf('/')));
        }
        CHECK.so("at most twelve classes", classes.size() <= 12);
        for (Class<?> c : classes) {
            boolean inside = c != TallySticks.class;
            CHECK.so(c + " has no classes inside", !inside || c.getDeclaredClasses().length == 0);
            CHECK.so(c + " is static and private", !inside || Modifier.isStatic(c.getModifiers()) && Modifier.isPrivate(c.getModifiers()));
            int fields = 0;
            for (Field f : c.getDeclaredFields()) {
                boolean isStatic = Modifier.isStatic(f.getModifiers());
                fields += isStatic ? 0 : 1;
                CHECK.so(f + " is final if it is static", !isStatic || Modifier.isFinal(f.getModifiers()));
                CHECK.so(f + " is private", Modifier.isPrivate(f.getModifiers()) || Modifier.isPublic(f.getModifiers()) && !inside);
            }
            CHECK.so(c + " has at most twenty fields", fields <= 20);
            for (Method m : c.getDeclaredMethods()) {
                boolean isPrivate = Modifier.isPrivate(m.getModifiers());
                CHECK.so(m + " is private", isPrivate || !inside);
                CHECK.so(m + " bears a name of its own", !isPrivate || !publicNames.contains(m.getName()));
                CHECK.so(m + " takes at most seven", m.getParameterCount() <= 7);
            }
            for (Constructor<?> k : c.getDeclaredConstructors()) {
                CHECK.so(k + " is private", !inside || Modifier.isPrivate(k.getModifiers()));
            }
        }
    }

    private static String withoutComments(String text) {
        return text.replaceAll("(?s)/\\*.*?\\*/", "").replaceAll("//[^\n]*", "");
    }

    private static void words(String code) {
        String[] banned = {"throw", "throws", "try", "catch", "synchronized", "assert", "->", "::", "import", "package",
            "protected", "interface", "double", "float", "Exact", "System.nanoTime", "System.currentTimeMillis", "Random",
            "instanceof", "hashCode", "toString", "finalize", "volatile", "native"};
        for (String word : banned) {
            String edge = Character.isLetter(word.charAt(0)) ? "\\b" : "";
            CHECK.so("no " + word, !Pattern.compile(edge + Pattern.quote(word) + edge).matcher(code).find());
        }
        CHECK.so("signs 1 to 127", code.chars().allMatch(c -> c >= 1 && c <= 127));
        Matcher library = Pattern.compile("\\b(System|Math|Integer|Long|Arrays|String)\\.([A-Za-z_]+)").matcher(code);
        Set<String> allowed = Set.of("System.arraycopy", "Math.min", "Math.max", "Integer.bitCount");
        while (library.find()) {
            CHECK.so(library.group() + " is allowed", allowed.contains(library.group()));
        }
        CHECK.so("no static block", !Pattern.compile("static\\s*\\{").matcher(code).find());
        CHECK.so("no endless loop", !code.contains("while (true)") && !code.contains("for (;;)"));
    }

    /** Methods begin and end with the same indentation. */
    private static void lengths(String text) {
        String[] lines = text.split("\n");
        Pattern head = Pattern.compile("^( {4}| {8})(public|private) [^=;]*\\(.*\\{$");
        for (int i = 0; i < lines.length; i++) {
            Matcher m = head.matcher(lines[i]);
            if (m.find()) {
                int end = i;
                while (!lines[end].equals(m.group(1) + "}")) {
                    end++;
                }
                CHECK.so(lines[i].trim() + " has " + (end - i + 1) + " lines", end - i + 1 <= 60);
            }
            CHECK.so("line " + (i + 1) + " is no longer than 125", lines[i].length() <= 125);
        }
    }
}
