import java.lang.reflect.Constructor;
import java.lang.reflect.Field;
import java.lang.reflect.Method;
import java.lang.reflect.Modifier;
import java.nio.file.Files;
import java.nio.file.Path;
import java.util.ArrayList;
import java.util.Arrays;
import java.util.List;
import java.util.TreeSet;
import java.util.regex.Matcher;
import java.util.regex.Pattern;

/** The document's face and nothing beside it, and those rules of LANGUAGE.md that can be seen from outside. */
public final class FaceTest {
    private static final String[] METHODS = {
        "int sort(int,int,int)", "int sortTold(int,int)", "int change(int,int,int)", "int deal(int)", "int rule(int,int,int,int)",
        "int told(int,int)", "int as(int,int)", "int turns(int,int)", "int set(int,int,int)", "int owes(int,int)", "int force(int)",
        "int card(int)", "int reader(int,int,int)", "int first(int,int)", "int run(int)", "int year()", "int seed(int)",
        "long library(int)", "int find()", "int edge(int)", "int write()", "int least()", "int feed(int,int,int)", "int trim(int)",
        "int text()", "int textTold(int,int)", "int why(int)", "int sheet(int,int,int)", "int mark(int,int,int)", "int learn(int)",
        "int reads(int,int)", "int copy(int,int,int,int,int)", "int lay(int,int,int)", "int ask(int,int)", "int item(int,int)",
        "int rest(int,int)", "int tell(int)", "int check(int)", "int keep()", "int back()", "int count(int)"};
    private static final String[] CONSTANTS = {"BAD", "NO", "FULL", "NONE", "NOTHING", "KIND", "INDEX", "SIZE"};
    private static final String[] NOT_WRITTEN = {
        "throws?\\b", "try\\b", "catch", "synchronized", "assert", "->", "::", "Exact\\b", "hashCode", "toString",
        "System\\.(?!arraycopy)", "Random", "Thread", "import (?!java\\.util\\.Arrays;)", "float ", "double "};

    private static int wrong = 0;

    private static void wrong(String what) {
        wrong++;
        System.out.println(what);
    }

    public static void main(String[] args) throws Exception {
        face();
        sizes(FineSlot.class);
        for (Class<?> inside : FineSlot.class.getDeclaredClasses()) {
            inside(inside);
        }
        if (FineSlot.class.getDeclaredClasses().length > 11) {
            wrong("more than twelve classes");
        }
        source(Files.readString(Path.of(args[0])));
        System.out.println(wrong == 0 ? "the face and the source are as told" : wrong + " things are not as told");
        if (wrong != 0) {
            System.exit(1);
        }
    }

    private static void face() {
        Class<?> c = FineSlot.class;
        if (!Modifier.isPublic(c.getModifiers()) || !Modifier.isFinal(c.getModifiers())) {
            wrong("the class is not public and final");
        }
        List<String> methods = new ArrayList<>();
        for (Method m : c.getDeclaredMethods()) {
            if (!Modifier.isPrivate(m.getModifiers())) {
                methods.add(m.getReturnType() + " " + m.getName() + Arrays.toString(m.getParameterTypes()).replace('[', '(').replace(']', ')').replace(" ", ""));
            }
        }
        same("methods", methods, METHODS);
        List<String> constants = new ArrayList<>();
        for (Field f : c.getDeclaredFields()) {
            if (!Modifier.isPrivate(f.getModifiers())) {
                constants.add(f.getName());
            }
        }
        same("constants", constants, CONSTANTS);
        Constructor<?>[] made = c.getDeclaredConstructors();
        if (made.length != 1 || made[0].getParameterCount() != 0 || !Modifier.isPublic(made[0].getModifiers())) {
            wrong("the constructor is not the document's");
        }
    }

    private static void same(String what, List<String> got, String[] due) {
        if (!new TreeSet<>(got).equals(new TreeSet<>(Arrays.asList(due))) || got.size() != due.length) {
            wrong(what + " are " + new TreeSet<>(got) + ", due are " + new TreeSet<>(Arrays.asList(due)));
        }
    }

    private static void inside(Class<?> c) {
        if (!Modifier.isStatic(c.getModifiers())) {
            wrong(c + " is not static");
        }
        sizes(c);
    }

    private static void sizes(Class<?> c) {
        int fields = 0;
        for (Field f : c.getDeclaredFields()) {
            boolean constant = Modifier.isStatic(f.getModifiers());
            if (constant && !Modifier.isFinal(f.getModifiers())) {
                wrong(f + " is not final");
            }
            fields += constant ? 0 : 1;
        }
        if (fields > 20) {
            wrong(c + " has more than twenty fields");
        }
        for (Method m : c.getDeclaredMethods()) {
            if (m.getParameterCount() > 7) {
                wrong(m + " takes more than seven");
            }
            if (Modifier.isPrivate(m.getModifiers()) && isOfFace(m.getName())) {
                wrong(m + " is private and bears the name of a public one");
            }
        }
    }

    private static boolean isOfFace(String name) {
        for (String m : METHODS) {
            if (m.substring(m.indexOf(' ') + 1, m.indexOf('(')).equals(name)) {
                return true;
            }
        }
        return false;
    }

    private static void source(String source) {
        String code = source.replaceAll("(?s)/\\*.*?\\*/", "").replaceAll("//[^\\n]*", "");
        for (String word : NOT_WRITTEN) {
            Matcher m = Pattern.compile(Character.isLetter(word.charAt(0)) ? "\\b" + word : word).matcher(code);
            if (m.find()) {
                wrong("the source has " + m.group());
            }
        }
        int length = 0;
        for (String line : source.split("\n")) {
            length = line.startsWith("    }") || line.startsWith("        }") ? 0 : length + 1;
            if (length == 70) {
                wrong("a method goes on for more than some sixty lines, up to: " + line);
            }
        }
    }
}
