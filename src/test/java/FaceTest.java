import java.io.IOException;
import java.lang.reflect.Constructor;
import java.lang.reflect.Field;
import java.lang.reflect.Method;
import java.lang.reflect.Modifier;
import java.nio.file.Files;
import java.nio.file.Path;
import java.util.Arrays;
import java.util.Set;
import java.util.TreeSet;
import java.util.regex.Matcher;
import java.util.regex.Pattern;

// The public face is the document's and no more, and the source keeps to the words that LANGUAGE.md leaves.
public final class FaceTest {
    private static final String[] METHODS = {
        "int type(boolean,int,int)", "int above(int,int)", "int face(int,int)", "int unface(int,int)",
        "int marks(int,int)", "int field(int,int,int,int,long)", "int method(int,int,int,int,int,int)",
        "int drop(int)", "int mark(int,int)", "int set(int,long)", "int retype(int,int,long)", "int move(int,int)",
        "int undo()", "int get(int,int)", "int call(int,int,int,int)", "int make(int)", "int meet(int,int)",
        "long asked()", "int anew(int,int)", "int culprit(int,int)", "int caller(int,int)", "int told(int,int)",
        "int below(int,int)", "int member(int,int)", "int selected(int,int)", "int count(int)", "long digest()"};
    private static final String[] CONSTANTS = {"BAD", "FULL", "NONE", "RING"};
    private static int wrong = 0;

    private static void hold(String what, boolean holds) {
        if (holds) return;
        wrong++;
        System.out.println("does not hold: " + what);
    }

    private static String told(Method m) {
        StringBuilder text = new StringBuilder(m.getReturnType() + " " + m.getName() + "(");
        for (Class<?> p : m.getParameterTypes()) text.append(text.charAt(text.length() - 1) == '(' ? "" : ",").append(p);
        return text.append(")").toString();
    }

    private static void face() {
        Set<String> methods = new TreeSet<>();
        Set<String> names = new TreeSet<>();
        for (Method m : Edits13.class.getDeclaredMethods()) {
            if (Modifier.isPrivate(m.getModifiers())) continue;
            hold(m + " is public and not static", m.getModifiers() == Modifier.PUBLIC);
            methods.add(told(m));
            names.add(m.getName());
        }
        hold("the methods are the document's", methods.equals(new TreeSet<>(Arrays.asList(METHODS))));
        Set<String> constants = new TreeSet<>();
        for (Field f : Edits13.class.getDeclaredFields()) if (!Modifier.isPrivate(f.getModifiers())) constants.add(f.getName());
        hold("the constants are the document's", constants.equals(new TreeSet<>(Arrays.asList(CONSTANTS))));
        Constructor<?>[] constructors = Edits13.class.getDeclaredConstructors();
        hold("one constructor without numbers", constructors.length == 1 && constructors[0].getParameterCount() == 0);
        hold("the class is final", Modifier.isFinal(Edits13.class.getModifiers()));
        for (Method m : Edits13.class.getDeclaredMethods()) {
            hold(m + " bears no public name", !Modifier.isPrivate(m.getModifiers()) || !names.contains(m.getName()));
        }
        for (Class<?> inside : Edits13.class.getDeclaredClasses()) {
            hold(inside + " is static", Modifier.isStatic(inside.getModifiers()));
            for (Method m : inside.getDeclaredMethods()) hold(m + " bears no public name", !names.contains(m.getName()));
        }
    }

    // The numbers of LANGUAGE.md's rule 11, and the static fields of its rule 5.
    private static void shape() {
        Class<?>[] inside = Edits13.class.getDeclaredClasses();
        hold("at most twelve classes", inside.length + 1 <= 12);
        shapeOf(Edits13.class);
        for (Class<?> c : inside) shapeOf(c);
    }

    private static void shapeOf(Class<?> c) {
        int fields = 0;
        for (Field f : c.getDeclaredFields()) {
            boolean ofClass = Modifier.isStatic(f.getModifiers());
            if (!ofClass) fields++;
            hold(f + " is a constant", !ofClass || Modifier.isFinal(f.getModifiers()) && f.getType() == int.class);
        }
        hold(c + " has at most twenty fields", fields <= 20);
        hold(c + " has no class inside", c == Edits13.class || c.getDeclaredClasses().length == 0);
        hold(c + " is private", c == Edits13.class || Modifier.isPrivate(c.getModifiers()));
        for (Method m : c.getDeclaredMethods()) hold(m + " takes at most seven", m.getParameterCount() <= 7);
        for (Constructor<?> m : c.getDeclaredConstructors()) {
            hold(m + " takes at most seven", m.getParameterCount() <= 7);
        }
    }

    // No method is longer than sixty lines: the brace that ends it stands as far in as its first line.
    private static void lengths() throws IOException {
        String source = Files.readString(Path.of("src/main/java/Edits13.java"));
        Matcher body = Pattern.compile("(?ms)^( {4}| {8})(?! )[^\n;]*\\) \\{$.*?^\\1\\}$").matcher(source);
        int methods = 0;
        while (body.find()) {
            methods++;
            String first = body.group().split("\n")[0].trim();
            hold("at most sixty lines: " + first, body.group().split("\n").length <= 60);
        }
        hold("methods were found", methods >= METHODS.length);
    }

    private static void words() throws IOException {
        String source = Files.readString(Path.of("src/main/java/Edits13.java"));
        String code = source.replaceAll("(?s)/\\*.*?\\*/", "").replaceAll("//[^\n]*", "");
        String barred = "\\b(throw|throws|try|catch|finally|synchronized|assert|import|package|protected|volatile|var)\\b"
            + "|->|::|\\b(System|Thread|Object|Random)\\b";
        Matcher found = Pattern.compile(barred).matcher(code);
        while (found.find()) hold("no " + found.group(), false);
        for (String line : source.split("\n")) hold("short: " + line, line.length() <= 120);
    }

    public static void main(String[] args) throws IOException {
        face();
        shape();
        lengths();
        words();
        System.out.println(wrong == 0 ? "the face is as due" : wrong + " rules do not hold");
        if (wrong != 0) System.exit(1);
    }
}
