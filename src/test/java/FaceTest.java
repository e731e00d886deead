import java.lang.reflect.Constructor;
import java.lang.reflect.Field;
import java.lang.reflect.Method;
import java.lang.reflect.Modifier;
import java.nio.charset.StandardCharsets;
import java.nio.file.Files;
import java.nio.file.Paths;
import java.util.ArrayList;
import java.util.List;
import java.util.Set;
import java.util.TreeSet;
import java.util.regex.Matcher;
import java.util.regex.Pattern;

/** The face that the document gives, and rules of ../shared/LANGUAGE.md that can be seen from outside. */
public final class FaceTest {
    private static final String N = " NoSuchElementException";
    private static final String A = " IllegalArgumentException";
    private static final String S = " IllegalStateException";
    private static final String I = " IndexOutOfBoundsException";

    private static final String[] FACE = {
        "int house(int)" + A, "int want(int,int,int)" + N + A, "int cellar(int,int)" + N + A,
        "boolean bar(int,int)" + N + A, "boolean trust(int,int,boolean)" + N + A, "int holder(int)" + A,
        "int chain(int,int)" + N, "int feed(int,int,int,int,int)", "int text(int)" + A, "int fault(int)",
        "int price(int)" + A, "int buys(int,int)" + N + A, "int cost(int)" + A, "int bought(int,int)" + N + A,
        "int least(int)" + A, "int group(int,int)" + A, "int come(int,int)" + N + A, "int join(int,int,int)" + A,
        "long upper()", "long lower()", "int pay(int,int)" + N + A, "int by(int)" + A, "int judge(int)" + A + S,
        "boolean can(int)" + A + S, "void share(int,int,boolean)" + A + S, "void row(int,int)" + A + S,
        "boolean proof(int,int,int)" + N + A + S, "void ruled(int,int)" + A + S, "int keeps(int)" + A + S,
        "int doubt(int,int,int)" + N + A, "boolean risk(int,int)" + A, "int before(int)" + A,
        "int seller(int,int,int,int)" + A, "void tray(int,int,int)" + N + A, "long write(int,int,long)" + N + S + I,
        "int take(int,int)" + N + S + A, "void image(int)" + N, "void restore(int)" + N + S, "int count(int)",
    };

    private FaceTest() {
    }

    public static void main(String[] args) throws Exception {
        face();
        inside();
        source(new String(Files.readAllBytes(Paths.get("src/main/java/CoalStreet.java")), StandardCharsets.UTF_8));
        Check.end();
    }

    private static String told(Method m) {
        StringBuilder t = new StringBuilder(m.getReturnType().getSimpleName() + " " + m.getName() + "(");
        for (int i = 0; i < m.getParameterCount(); i++) {
            t.append(i > 0 ? "," : "").append(m.getParameterTypes()[i].getSimpleName());
        }
        t.append(")");
        for (Class<?> e : m.getExceptionTypes()) {
            t.append(" ").append(e.getSimpleName());
        }
        return t.toString();
    }

    private static void face() {
        Set<String> due = new TreeSet<>(List.of(FACE));
        Set<String> got = new TreeSet<>();
        Set<String> names = new TreeSet<>();
        for (Method m : CoalStreet.class.getDeclaredMethods()) {
            if (Modifier.isPublic(m.getModifiers()) && !Modifier.isStatic(m.getModifiers())) {
                got.add(told(m));
                names.add(m.getName());
            } else {
                Check.same(m + " is private", true, Modifier.isPrivate(m.getModifiers()));
            }
        }
        Check.same("the methods", due, got);
        for (Class<?> c : CoalStreet.class.getDeclaredClasses()) {
            for (Method m : c.getDeclaredMethods()) {
                Check.same(m + " bears the name of a public one", false, names.contains(m.getName()));
            }
        }
        for (Method m : CoalStreet.class.getDeclaredMethods()) {
            Check.same(m + " bears the name of a public one", false,
                    Modifier.isPrivate(m.getModifiers()) && names.contains(m.getName()));
        }
        Constructor<?>[] makers = CoalStreet.class.getDeclaredConstructors();
        Check.same("constructors", 1, makers.length);
        Check.same("its parameters", 0, makers[0].getParameterCount());
        Check.same("public and final", true, Modifier.isPublic(makers[0].getModifiers())
                && Modifier.isFinal(CoalStreet.class.getModifiers()));
        for (Field f : CoalStreet.class.getDeclaredFields()) {
            boolean is = f.getName().equals("NONE");
            Check.same(f + " is private", !is, Modifier.isPrivate(f.getModifiers()));
        }
    }

    private static void inside() {
        List<Class<?>> all = new ArrayList<>(List.of(CoalStreet.class.getDeclaredClasses()));
        Check.same("at most twelve classes with the outer one", true, all.size() <= 11);
        all.add(CoalStreet.class);
        for (Class<?> c : all) {
            int fields = 0;
            for (Field f : c.getDeclaredFields()) {
                boolean still = Modifier.isStatic(f.getModifiers());
                fields += still ? 0 : 1;
                Check.same(f + " is final if it is static", true, !still || Modifier.isFinal(f.getModifiers()));
            }
            Check.same(c + " has at most twenty fields", true, fields <= 20);
            for (Method m : c.getDeclaredMethods()) {
                Check.same(m + " has at most seven parameters", true, m.getParameterCount() <= 7);
            }
        }
    }

    private static void source(String text) {
        String bare = text.replaceAll("//[^\n]*", "").replaceAll("\"[^\"]*\"", "\"\"");
        String[] never = {"->", "::", "\\bfinally\\b", "\\bcatch\\b", "\\btry\\b", "\\bsynchronized\\b", "\\bassert\\b",
            "\\bSystem\\.(?!arraycopy)", "\\bArrays\\.(?!copyOf|copyOfRange|fill)", "Exact\\(", "\\bordinal\\(",
            "\\bequals\\(", "\\bhashCode\\(", "\\btoString\\(", "\\bObject\\b", "\\bprotected\\b", "\\bnative\\b",
            "\\bimport (?!java\\.util\\.(Arrays|NoSuchElementException);)", "\\bpackage\\b", "\\bwhile \\(true\\)"};
        for (String word : never) {
            Matcher m = Pattern.compile(word).matcher(bare);
            Check.same("the source holds " + word, false, m.find());
        }
        Matcher flags = Pattern.compile("boolean\\[\\] (\\w+)").matcher(bare);
        while (flags.find()) {
            Check.same("fill over the flags " + flags.group(1), false, bare.contains("fill(" + flags.group(1)));
        }
        for (int i = 0; i < text.length(); i++) {
            if (text.charAt(i) > 126 || text.charAt(i) < 32 && text.charAt(i) != '\n') {
                Check.same("the source's sign at " + i, "a plain one", (int) text.charAt(i));
            }
        }
        String[] lines = text.split("\n");
        int from = 0;
        for (int i = 0; i < lines.length; i++) {
            if (lines[i].matches("( {4}| {8})\\S.*\\).* \\{") || lines[i].matches("( {4}| {8})\\S.*[(,]")) {
                from = i;
            }
            if (lines[i].matches(" {4}}| {8}}")) {
                Check.same("the method to line " + (i + 1) + " is short", true, i - from < 60
                        || lines[i].matches(" {4}}"));
            }
        }
    }
}
