import java.lang.reflect.Field;
import java.lang.reflect.Method;
import java.lang.reflect.Modifier;
import java.nio.file.Files;
import java.nio.file.Path;
import java.util.ArrayList;
import java.util.Arrays;
import java.util.List;
import java.util.Set;
import java.util.TreeSet;
import java.util.regex.Matcher;
import java.util.regex.Pattern;

/** The class has just the face that the document prints, and keeps to what LANGUAGE.md rules out. */
public final class FaceAndLanguageTest {
    private static final String[] RULED_OUT = {
        "\\bthrow\\b", "\\bthrows\\b", "\\btry\\b", "\\bcatch\\b", "\\bsynchronized\\b", "\\bassert\\b",
        "\\bimport\\b", "\\bpackage\\b", "->", "::", "\\bprotected\\b", "\\bThread\\b", "\\bSystem\\b",
        "\\bObject\\b", "\\bMAX_VALUE\\b", "\\bMIN_VALUE\\b", "Exact\\b", "\\bequals\\b", "\\bhashCode\\b",
        "\\btoString\\b", "\\bfloat\\b", "\\bdouble\\b", "\\bvar\\b", "\\?\\?", "[^\\x00-\\x7F]"
    };

    private static int wrong = 0;

    private static void due(String what, Object got, Object want) {
        if (!got.equals(want)) {
            wrong++;
            System.out.println(what + " is " + got + ", due is " + want);
        }
    }

    private static Set<String> printedFace() throws Exception {
        Set<String> face = new TreeSet<>();
        Matcher m = Pattern.compile("(?m)^ +public (int \\w+\\(.*\\));$")
            .matcher(Files.readString(Path.of("../shared/DOC.md")));
        while (m.find()) {
            face.add(m.group(1).replaceAll(" \\w+(?=[,)])", "").replace("int() ", "int "));
        }
        return face;
    }

    private static Set<String> realFace() {
        Set<String> face = new TreeSet<>();
        for (Method m : OneGoCeiling.class.getDeclaredMethods()) {
            if (Modifier.isPrivate(m.getModifiers())) {
                continue;
            }
            due(m.getName() + " public", m.getModifiers(), Modifier.PUBLIC);
            List<String> types = new ArrayList<>();
            for (Class<?> type : m.getParameterTypes()) {
                types.add(type.getName());
            }
            face.add(m.getReturnType().getName() + " " + m.getName() + "(" + String.join(", ", types) + ")");
        }
        return face;
    }

    private static void members() {
        Class<?> c = OneGoCeiling.class;
        due("class", c.getModifiers(), Modifier.PUBLIC | Modifier.FINAL);
        due("constructors", c.getDeclaredConstructors().length, 1);
        due("constructor", c.getDeclaredConstructors()[0].getModifiers(), Modifier.PUBLIC);
        Set<String> names = new TreeSet<>();
        for (Method m : c.getDeclaredMethods()) {
            if (Modifier.isPublic(m.getModifiers())) {
                names.add(m.getName());
            }
        }
        for (Method m : c.getDeclaredMethods()) {
            if (!Modifier.isPublic(m.getModifiers())) {
                due(m.getName() + " bears a public name", names.contains(m.getName()), false);
            }
        }
        for (Field f : c.getDeclaredFields()) {
            due(f.getName() + " private", Modifier.isPrivate(f.getModifiers()), true);
        }
        List<Class<?>> all = new ArrayList<>(Arrays.asList(c.getDeclaredClasses()));
        due("some twelve classes at most", all.size() + 1 <= 12, true);
        all.add(c);
        for (Class<?> each : all) {
            due(each.getName() + " static", each == c || Modifier.isStatic(each.getModifiers()), true);
            due(each.getName() + " no more public", each == c || !Modifier.isPublic(each.getModifiers()), true);
            for (Field f : each.getDeclaredFields()) {
                boolean fixed = !Modifier.isStatic(f.getModifiers()) || Modifier.isFinal(f.getModifiers());
                due(f.getName() + " fixed", fixed, true);
            }
            for (Method m : each.getDeclaredMethods()) {
                due(m.getName() + " has few parameters", m.getParameterCount() <= 7, true);
            }
        }
    }

    private static void source() throws Exception {
        String text = Files.readString(Path.of("src/main/java/OneGoCeiling.java"));
        String bare = text.replaceAll("(?s)/\\*.*?\\*/", "").replaceAll("//.*", "");
        for (String pattern : RULED_OUT) {
            due(pattern, Pattern.compile(pattern).matcher(bare).find(), false);
        }
        int begin = 0;
        String[] lines = text.split("\n");
        for (int i = 0; i < lines.length; i++) {
            if (lines[i].matches("( {4}| {8})\\S.*\\) \\{")) {
                begin = i;
            } else if (lines[i].matches("( {4}| {8})\\}")) {
                due("short: " + lines[begin], i - begin <= 60, true);
            }
        }
    }

    public static void main(String[] args) throws Exception {
        Set<String> printed = printedFace();
        due("methods printed", printed.size(), 37);
        due("the face", realFace(), printed);
        members();
        source();
        System.out.println(wrong == 0 ? "the face and the language are kept" : wrong + " things are not kept");
        if (wrong != 0) {
            System.exit(1);
        }
    }
}
