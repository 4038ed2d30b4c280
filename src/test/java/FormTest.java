import java.io.IOException;
import java.lang.reflect.Constructor;
import java.lang.reflect.Field;
import java.lang.reflect.Method;
import java.lang.reflect.Modifier;
import java.nio.file.Files;
import java.nio.file.Path;
import java.util.Arrays;
import java.util.TreeSet;

/** The document's face, and the rules of LANGUAGE.md that can be read off the source. */
public final class FormTest {
    private static final String[] FACE = {
        "int one(int,int,int)", "int owe(int,int,int)", "int lot(int,int,int)", "int set(int,int)", "int say(int)", "int wipe()",
        "int fault()", "int judge(int)", "int behind(int,int)", "int total(int)", "int fell(int)", "int done()", "int struck(int)",
        "int prints(int)", "int buys(int,int)", "int runs(int,int,int)", "int wages(int,int)", "long change(int,int,int,int,int)",
        "long sample(int,int,int,int,int)", "int seen(int,int,int)", "int forget()", "int clerks(int,int)", "int count(int,int)",
        "int year(int,int,int)", "int image(int)", "int restore(int)", "int told(int)"};
    private static final String[] CONSTANTS = {"UNKNOWN", "OUTSIDE", "STATE", "FULL", "NO", "NONE", "GONE"};
    private static final String[] RULED_OUT = {"throw", "throws", "try", "catch", "finally", "synchronized", "assert", "import",
        "package", "protected", "volatile", "Object", "System.out", "System.err", "Random", "Thread", "Exception", "Error"};

    public static void main(String[] args) throws IOException {
        face();
        classesInside();
        source();
        constants();
        Check.finish("FormTest");
    }

    private static void face() {
        Class<?> c = AbbeyNotes.class;
        Check.due("public final", c.getModifiers() & (Modifier.PUBLIC | Modifier.FINAL), Modifier.PUBLIC | Modifier.FINAL);
        TreeSet<String> shown = new TreeSet<>();
        TreeSet<String> names = new TreeSet<>();
        for (Method m : c.getDeclaredMethods()) {
            if (!Modifier.isPrivate(m.getModifiers())) {
                String types = Arrays.toString(m.getParameterTypes()).replaceAll("[\\[\\] ]", "");
                shown.add(m.getReturnType() + " " + m.getName() + "(" + types + ")");
                names.add(m.getName());
            }
        }
        Check.same("methods", shown.toString(), new TreeSet<>(Arrays.asList(FACE)).toString());
        for (Method m : c.getDeclaredMethods()) {
            boolean hidden = Modifier.isPrivate(m.getModifiers());
            Check.due("a private " + m.getName() + " beside a public one", hidden && names.contains(m.getName()) ? 1 : 0, 0);
        }
        TreeSet<String> fields = new TreeSet<>();
        for (Field f : c.getDeclaredFields()) {
            if (!Modifier.isPrivate(f.getModifiers())) {
                fields.add(f.getName());
            }
            boolean fixed = !Modifier.isStatic(f.getModifiers()) || Modifier.isFinal(f.getModifiers());
            Check.due("static field is final " + f.getName(), fixed ? 1 : 0, 1);
        }
        Check.same("constants", fields.toString(), new TreeSet<>(Arrays.asList(CONSTANTS)).toString());
        Constructor<?>[] made = c.getDeclaredConstructors();
        Check.due("one constructor", made.length, 1);
        Check.due("public constructor", made[0].getParameterCount() + (Modifier.isPublic(made[0].getModifiers()) ? 0 : 1), 0);
    }

    private static void classesInside() {
        Class<?>[] inside = AbbeyNotes.class.getDeclaredClasses();
        Check.due("twelve classes at the most", inside.length <= 11 ? 1 : 0, 1);
        for (Class<?> c : inside) {
            Check.due("static class " + c.getName(), Modifier.isStatic(c.getModifiers()) ? 1 : 0, 1);
            int fields = 0;
            for (Field f : c.getDeclaredFields()) {
                fields += Modifier.isStatic(f.getModifiers()) ? 0 : 1;
            }
            Check.due("twenty fields at the most " + c.getName(), fields <= 20 ? 1 : 0, 1);
            for (Method m : c.getDeclaredMethods()) {
                Check.due("seven parameters at the most", m.getParameterCount() <= 7 ? 1 : 0, 1);
            }
        }
    }

    private static void source() throws IOException {
        String text = Files.readString(Path.of("src/main/java/AbbeyNotes.java"));
        for (int i = 0; i < text.length(); i++) {
            Check.due("sign " + (int) text.charAt(i), text.charAt(i) <= 126 ? 1 : 0, 1);
        }
        String code = text.replaceAll("(?s)/\\*.*?\\*/", "").replaceAll("//.*", "");
        for (String word : RULED_OUT) {
            Check.due("word " + word, code.matches("(?s).*\\b" + word.replace(".", "\\.") + "\\b.*") ? 1 : 0, 0);
        }
        Check.due("arrows and double colons", code.contains("->") || code.contains("::") || code.contains("Exact(") ? 1 : 0, 0);
        callsMakeNothing(code);
        methodsAreShort(text);
    }

    /** Rule 11: some sixty lines, and seven parameters at the most. */
    private static void methodsAreShort(String text) {
        String[] lines = text.split("\n");
        int methods = 0;
        for (int i = 0; i < lines.length; i++) {
            if (lines[i].matches("( {4}| {8})[\\w\\[\\] ]+\\([\\w\\[\\], ]*\\) \\{")) {
                String end = lines[i].replaceAll("\\S.*", "") + "}";
                int last = i;
                while (last < lines.length && !lines[last].equals(end)) {
                    last++;
                }
                Check.due("sixty lines at the most:" + lines[i], last - i <= 60 ? 1 : 0, 1);
                Check.due("seven parameters at the most:" + lines[i], lines[i].split(",").length <= 7 ? 1 : 0, 1);
                methods++;
            }
        }
        Check.due("methods were found", methods > FACE.length ? 1 : 0, 1);
    }

    /** All rows are made with the object: a new stands in a field or in the constructor alone. */
    private static void callsMakeNothing(String code) {
        for (String line : code.split("\n")) {
            if (line.matches(".*\\bnew\\b.*")) {
                boolean field = line.matches("\\s+(private )?final \\w+(\\[\\])* \\w+ = new .*");
                boolean made = line.contains("images[k] = new Image();");
                Check.due("made by a call:" + line, field || made ? 1 : 0, 1);
            }
        }
    }

    private static void constants() {
        Check.due("UNKNOWN", AbbeyNotes.UNKNOWN, -1);
        Check.due("OUTSIDE", AbbeyNotes.OUTSIDE, -2);
        Check.due("STATE", AbbeyNotes.STATE, -3);
        Check.due("FULL", AbbeyNotes.FULL, -4);
        Check.due("NO", AbbeyNotes.NO, -5);
        Check.due("NONE", AbbeyNotes.NONE, -6);
        Check.due("GONE", AbbeyNotes.GONE, -1000000000000000000L);
    }
}
