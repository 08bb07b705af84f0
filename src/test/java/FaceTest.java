import java.lang.reflect.Constructor;
import java.lang.reflect.Field;
import java.lang.reflect.Method;
import java.lang.reflect.Modifier;
import java.nio.file.Files;
import java.nio.file.Path;
import java.util.Arrays;
import java.util.Set;
import java.util.TreeSet;
import java.util.regex.Matcher;
import java.util.regex.Pattern;

/** The public face of the document, and the rules of LANGUAGE.md that a look at the words can tell. */
public final class FaceTest {
    private static final String FACE =
        "row(int,int,int)int set(int,int,long)int copy(int,int,int,int,int)int element(int,int)long show(int,int)int "
        + "holds(int)int says(int,int)int side(int)int thing(int,int,int)int neighbour(int,int)int "
        + "device(int,int,int)int box(int,int)int ask(int,int)int shut(int,boolean)int move(int,int)int "
        + "thingOf(int,int)int deviceOf(int,int)int house(int)int fault()int bars(int,int,int)int way(int,int,int)int "
        + "hum(int,int)int filled(int)int put(int)int channel()int rests()int goesTo(int,int)int moved()int "
        + "doors()int count(int)int fits(int,int,int)int next(int,int)int near(int,int)int minute()int blame(int)int "
        + "judge(int,int)int hops(int,int,int)int evening(int,int)int weeks(int)int seed(int)int act(int,int,int)int "
        + "trace(int)int image()int restore()int status(int)int";

    private static void face() {
        Class<?> face = TwoBarsByTheWindow.class;
        Set<String> due = new TreeSet<>(Arrays.asList(FACE.split(" ")));
        Set<String> got = new TreeSet<>();
        Set<String> names = new TreeSet<>();
        for (Method m : face.getDeclaredMethods()) {
            if (Modifier.isPublic(m.getModifiers())) {
                StringBuilder b = new StringBuilder(m.getName()).append('(');
                for (Class<?> type : m.getParameterTypes()) {
                    b.append(b.charAt(b.length() - 1) == '(' ? "" : ",").append(type.getName());
                }
                got.add(b.append(')').append(m.getReturnType().getName()).toString());
                names.add(m.getName());
                Checks.hold(m + " is no static one", !Modifier.isStatic(m.getModifiers()));
            } else {
                Checks.hold(m + " is private", Modifier.isPrivate(m.getModifiers()));
            }
        }
        Checks.hold("the methods: " + got, got.equals(due));
        for (Method m : face.getDeclaredMethods()) {
            Checks.hold(m + " has no name of the face", Modifier.isPublic(m.getModifiers()) || !names.contains(m.getName()));
        }
        for (Field f : face.getDeclaredFields()) {
            Checks.hold(f + " is private", f.getName().equals("NONE") || Modifier.isPrivate(f.getModifiers()));
        }
        Constructor<?>[] makers = face.getDeclaredConstructors();
        Checks.due("constructors", makers.length, 1);
        Checks.hold("public constructor", Modifier.isPublic(makers[0].getModifiers()));
        Checks.hold("public final class", Modifier.isPublic(face.getModifiers()) && Modifier.isFinal(face.getModifiers()));
        Checks.due("NONE", TwoBarsByTheWindow.NONE, -1);
        inside(face, names);
    }

    private static void inside(Class<?> face, Set<String> names) {
        Class<?>[] classes = face.getDeclaredClasses();
        Checks.hold("some twelve classes", classes.length <= 11);
        for (Class<?> c : classes) {
            Checks.hold(c + " is static", Modifier.isStatic(c.getModifiers()));
            Checks.hold(c + " is not public", !Modifier.isPublic(c.getModifiers()));
            for (Method m : c.getDeclaredMethods()) {
                Checks.hold(m + " has no name of the face", !names.contains(m.getName()));
                Checks.hold(m + " has at most seven parameters", m.getParameterCount() <= 7);
            }
            for (Field f : c.getDeclaredFields()) {
                Checks.hold(f + " is no static state",
                    !Modifier.isStatic(f.getModifiers()) || Modifier.isFinal(f.getModifiers()));
            }
        }
    }

    private static String bare(String source) {
        return source.replaceAll("(?s)/\\*.*?\\*/", " ").replaceAll("//[^\n]*", " ")
            .replaceAll("\"[^\"\n]*\"", "\"\"").replaceAll("'[^'\n]'", "' '");
    }

    private static void words(String source) {
        String code = bare(source);
        String[] banned = {
            "throw", "throws", "try", "catch", "finally", "synchronized", "assert", "package", "protected", "native",
            "volatile", "transient", "var", "yield", "Object", "System\\.out", "System\\.in", "System\\.exit",
            "System\\.nanoTime", "System\\.currentTimeMillis", "hashCode", "equals", "toString", "Random", "Thread",
            "Map", "HashMap", "Set", "Optional", "Stream", "Scanner", "Exact", "\\w+Exact", "default\\s*->", "float",
            "double"};
        for (String word : banned) {
            Checks.hold("no " + word, !Pattern.compile("\\b" + word + "\\b").matcher(code).find());
        }
        Checks.hold("no lambda, no arrow", !code.contains("->"));
        Checks.hold("no method reference", !code.contains("::"));
        Checks.hold("no static block", !Pattern.compile("\\bstatic\\s*\\{").matcher(code).find());
        Checks.hold("no annotation", !code.contains("@"));
        for (int i = 0; i < source.length(); i++) {
            char sign = source.charAt(i);
            Checks.hold("sign " + (int) sign, sign == '\n' || (sign >= 32 && sign < 127));
        }
        Matcher imports = Pattern.compile("import\\s+([\\w.]+);").matcher(code);
        while (imports.find()) {
            Checks.hold("import " + imports.group(1), imports.group(1).matches("java\\.util\\.(Arrays|ArrayList|List)"));
        }
    }

    private static void lengths(String source) {
        String[] lines = source.split("\n");
        Pattern head = Pattern.compile("^( {4}| {8})(public|private|static|int|boolean|void|long|String|[A-Z]\\w*) .*\\) \\{$");
        for (int i = 0; i < lines.length; i++) {
            Matcher m = head.matcher(lines[i]);
            if (!m.find()) {
                continue;
            }
            int end = i;
            while (end < lines.length && !lines[end].equals(m.group(1) + "}")) {
                end++;
            }
            Checks.hold("some sixty lines at most: " + lines[i].trim(), end - i < 60);
        }
    }

    public static void main(String[] args) throws Exception {
        face();
        if (args.length > 0) {
            String source = Files.readString(Path.of(args[0]));
            words(source);
            lengths(source);
        } else {
            Checks.hold("the file's path is given", false);
        }
        Checks.end("FaceTest");
    }
}
