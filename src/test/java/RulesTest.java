import java.lang.reflect.Constructor;
import java.lang.reflect.Field;
import java.lang.reflect.Method;
import java.lang.reflect.Modifier;
import java.nio.file.Files;
import java.nio.file.Path;
import java.util.ArrayList;
import java.util.List;
import java.util.Set;
import java.util.TreeSet;
import java.util.regex.Matcher;
import java.util.regex.Pattern;

/** The face is the document's and no more, and the source keeps to those rules of LANGUAGE.md that a look can tell. */
public final class RulesTest {
    private static final String FACE = "feed(int)int end(int)int text()int fault()int rule(int)int isle(int,int)int cross(int,int)int "
        + "rope(int,int)int far(int,int)int alter(int,int,int)int sulk(int,int,int)int haul(int,int)int wed(int,int,int)int loose(int)int "
        + "feast(int)int days(int)int runs(int,int)int ahead(int,int)int within(int)int match(int,int)int fray(int)int soothe(int)int "
        + "holy(int,int)int kind(int,int,int)int slack(int,int,int)int luck(int,int,int,int)long mean(int,int,int)long see(int,int,int)int "
        + "forget(int)int kinds(int)int sulks(int,int)int ask(int,int)int drift(int,int,int)int keep(int)int back(int)int "
        + "sheet(int,int,int)int lay(int,int,int)int read(int,int,int,int)int torn()int count(int)int";
    private static int wrong = 0;

    private static void hold(boolean holds, String what) {
        if (!holds) {
            wrong++;
            System.out.println("not kept: " + what);
        }
    }

    private static void face() {
        Class<?> type = TemperIsles.class;
        hold(Modifier.isPublic(type.getModifiers()) && Modifier.isFinal(type.getModifiers()), "the class is public and final");
        Set<String> found = new TreeSet<>();
        Set<String> names = new TreeSet<>();
        for (Method m : type.getDeclaredMethods()) {
            if (Modifier.isPublic(m.getModifiers())) {
                List<String> of = new ArrayList<>();
                for (Class<?> p : m.getParameterTypes()) {
                    of.add(p.getName());
                }
                found.add(m.getName() + "(" + String.join(",", of) + ")" + m.getReturnType().getName());
                names.add(m.getName());
                hold(!Modifier.isStatic(m.getModifiers()), m.getName() + " is not static");
            }
        }
        hold(found.equals(new TreeSet<>(List.of(FACE.split(" ")))), "the public methods are those of the face: " + found);
        Constructor<?>[] made = type.getDeclaredConstructors();
        hold(made.length == 1 && Modifier.isPublic(made[0].getModifiers()) && made[0].getParameterCount() == 0, "one public constructor");
        hidden(type, names);
        for (Class<?> inner : type.getDeclaredClasses()) {
            hold(Modifier.isStatic(inner.getModifiers()) && !Modifier.isPublic(inner.getModifiers()), inner + " is static and not public");
            for (Method m : inner.getDeclaredMethods()) {
                hold(!names.contains(m.getName()), m + " does not bear the name of a public one");
                hold(m.getParameterCount() <= 7, m + " takes at most seven");
            }
            constants(inner);
            hold(inner.getDeclaredFields().length < 40, inner + " has few fields");
        }
        hold(type.getDeclaredClasses().length <= 12, "at most twelve classes");
        constants(type);
    }

    /** The document's own block of the face tells the same, with the same constants. */
    private static void faceOfDocument() throws Exception {
        String document = Files.readString(Path.of("../shared/DOC.md"));
        Set<String> told = new TreeSet<>();
        Matcher method = Pattern.compile("(?m)^    public (int|long) (\\w+)\\((.*)\\);$").matcher(document);
        while (method.find()) {
            told.add(method.group(2) + "(" + method.group(3).replaceAll("int \\w+", "int").replace(" ", "") + ")" + method.group(1));
        }
        hold(told.equals(new TreeSet<>(List.of(FACE.split(" ")))), "the face is the document's: " + told);
        String constants = "    public static final int BAD = -1, STATE = -2, FULL = -3, NONE = -4;";
        hold(document.contains(constants), "the constants are the document's");
        hold(TemperIsles.BAD == -1 && TemperIsles.STATE == -2 && TemperIsles.FULL == -3 && TemperIsles.NONE == -4, constants);
    }

    private static void hidden(Class<?> type, Set<String> names) {
        Set<String> open = Set.of("BAD", "STATE", "FULL", "NONE");
        int found = 0;
        for (Field f : type.getDeclaredFields()) {
            if (open.contains(f.getName())) {
                found++;
                hold(Modifier.isPublic(f.getModifiers()) && Modifier.isStatic(f.getModifiers()) && f.getType() == int.class, f + " is a public constant");
            } else {
                hold(Modifier.isPrivate(f.getModifiers()), f + " is private");
            }
        }
        hold(found == 4, "there are four public constants");
        for (Method m : type.getDeclaredMethods()) {
            if (!Modifier.isPublic(m.getModifiers())) {
                hold(Modifier.isPrivate(m.getModifiers()), m + " is private");
                hold(!names.contains(m.getName()), m + " does not bear the name of a public one");
                hold(m.getParameterCount() <= 7, m + " takes at most seven");
            }
        }
    }

    private static void constants(Class<?> type) {
        for (Field f : type.getDeclaredFields()) {
            if (Modifier.isStatic(f.getModifiers())) {
                hold(Modifier.isFinal(f.getModifiers()) && f.getType() == int.class, f + " is a constant");
            }
        }
    }

    private static void source() throws Exception {
        String text = Files.readString(Path.of("src/main/java/TemperIsles.java"));
        String bare = text.replaceAll("(?s)/\\*.*?\\*/", "").replaceAll("//[^\n]*", "").replaceAll("\"[^\"\n]*\"", "\"\"").replaceAll("'[^'\n]*'", "' '");
        String[] banned = {"throw", "throws", "try", "catch", "finally", "synchronized", "assert", "volatile", "package", "native", "Object", "Random", "Thread", "instanceof", "hashCode", "toString", "List", "Exact\\w*", "double", "float", "new String", "transient", "var", "record", "while \\(true\\)"};
        for (String word : banned) {
            hold(!Pattern.compile("\\b" + word + "(?!\\w)").matcher(bare).find(), "no " + word);
        }
        hold(!bare.contains("->") && !bare.contains("::"), "no lambda, no method reference");
        Matcher imports = Pattern.compile("import ([^;]*);").matcher(bare);
        while (imports.find()) {
            hold(imports.group(1).equals("java.util.Arrays"), "import " + imports.group(1));
        }
        Matcher calls = Pattern.compile("\\b(Math|Integer|Long|Arrays|System|String|Character)\\.(\\w+)").matcher(bare);
        Set<String> listed = Set.of("Math.abs", "Math.max", "Math.min", "Integer.signum", "Arrays.fill", "System.arraycopy");
        while (calls.find()) {
            hold(listed.contains(calls.group()), calls.group() + " is of the library that is listed");
        }
        lengths(bare);
    }

    /** Methods stay short: some sixty lines. */
    private static void lengths(String bare) {
        String[] lines = bare.split("\n");
        for (int from = 0; from < lines.length; from++) {
            Matcher head = Pattern.compile("^( {4}| {8})(?! |new |return |else |switch )[\\w\\[\\]<> ]+\\([^;]*\\{$").matcher(lines[from]);
            if (!head.find() || lines[from].trim().startsWith("if") || lines[from].trim().startsWith("for")) {
                continue;
            }
            int to = from + 1;
            while (to < lines.length && !lines[to].equals(head.group(1) + "}")) {
                to++;
            }
            hold(to - from <= 60, lines[from].trim() + " has at most sixty lines");
        }
    }

    public static void main(String[] args) throws Exception {
        face();
        faceOfDocument();
        source();
        System.out.println(wrong == 0 ? "the rules are kept" : wrong + " rules are not kept");
        if (wrong != 0) {
            System.exit(1);
        }
    }
}
