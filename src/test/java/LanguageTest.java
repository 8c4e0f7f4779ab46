import java.io.IOException;
import java.lang.reflect.Field;
import java.lang.reflect.Method;
import java.lang.reflect.Modifier;
import java.nio.file.Files;
import java.nio.file.Path;
import java.util.HashSet;
import java.util.Set;
import java.util.regex.Matcher;
import java.util.regex.Pattern;

/** What of LANGUAGE.md can be seen in the source's text. */
final class LanguageTest {
    private static final Check CHECK = new Check();
    private static final Pattern LIBRARY = Pattern.compile("java/lang/Object\\.\"<init>\".*|java/lang/(Math|Long|Integer)\\.(?!.*Exact).*|"
        + "java/lang/String\\.(length|charAt|isEmpty|equals|indexOf|substring|toCharArray)\\(.*|java/lang/System\\.arraycopy.*|"
        + "java/util/Arrays\\.(copyOf|copyOfRange|fill)\\(.*");

    public static void main(String[] args) throws IOException {
        String path = System.getProperty("overfirst.source", "src/main/java/OverFirst.java");
        String source = Files.readString(Path.of(path));
        for (char c : source.toCharArray()) {
            if (c > 126 || c < 32 && c != 10) {
                CHECK.due("a sign of the source is " + (int) c, 0, 1);
            }
        }
        String code = source.replaceAll("(?s)/\\*.*?\\*/", "").replaceAll("//[^\n]*", "")
            .replaceAll("\"[^\"\n]*\"", "TEXT").replaceAll("'[^'\n]+'", "SIGN");
        for (String word : new String[] {"throw", "throws", "try", "catch", "synchronized", "assert", "package", "var", "enum", "double", "float",
            "volatile", "native", "protected", "hashCode", "toString", "Exception", "System\\.(?!arraycopy)", "Thread", "->", "::", "@"}) {
            String pattern = word.matches("[A-Za-z]+") ? "\\b" + word + "\\b" : word;
            CHECK.due("the source has " + word, Pattern.compile(pattern).matcher(code).find(), false);
        }
        count("import lines", code, "(?m)^import ", 1, 1);
        count("imports of Arrays", code, "(?m)^import java\\.util\\.Arrays;$", 1, 1);
        count("classes", code, "\\bclass [A-Z]", 2, 12);
        count("classes inside that aren't private static final", code, "(?m)^ ++(?!private static final class).*\\bclass [A-Z]", 0, 0);
        count("static fields that aren't final", code, "\\bstatic (?!final\\b)[a-zA-Z\\[\\]]+ [a-zA-Z]+( =|;)", 0, 0);
        methods(code);
        fields();
        calls();
        CHECK.end();
    }

    private static void count(String what, String code, String pattern, int least, int most) {
        int found = (int) Pattern.compile(pattern).matcher(code).results().count();
        CHECK.due(what + ": " + found, found >= least && found <= most, true);
    }

    private static void methods(String code) {
        Matcher m = Pattern.compile("(?m)^( +)((?:private |public |static |final )*)([A-Za-z\\[\\]]+ )?([A-Za-z0-9]+)\\(([^)]*)\\) \\{$").matcher(code);
        Set<String> face = new HashSet<>();
        Set<String> others = new HashSet<>();
        while (m.find()) {
            if (m.group(4).matches("if|for|while|switch") || m.group(3) != null && m.group(3).matches("(else|return|new) ")) {
                continue;
            }
            (m.group(2).contains("public") ? face : others).add(m.group(4));
            int parameters = m.group(5).isBlank() ? 0 : m.group(5).split(",").length;
            CHECK.due(m.group(4) + " has " + parameters + " parameters", parameters <= 7, true);
            int end = code.indexOf("\n" + m.group(1) + "}", m.start());
            long lines = code.substring(m.start(), end).lines().count() + 1;
            CHECK.due(m.group(4) + " has " + lines + " lines", lines <= 60, true);
        }
        for (String name : others) {
            CHECK.due("not of the face, but named as one of it: " + name, face.contains(name), false);
        }
        CHECK.due("methods of the face, the constructor too", face.size(), 32);
        CHECK.due("other methods are seen", others.size() > 50, true);
    }

    private static void fields() {
        fields(OverFirst.class);
        for (Class<?> inside : OverFirst.class.getDeclaredClasses()) {
            fields(inside);
        }
    }

    private static void fields(Class<?> type) {
        int own = 0;
        for (Field field : type.getDeclaredFields()) {
            boolean constant = Modifier.isStatic(field.getModifiers());
            own += constant ? 0 : 1;
            CHECK.due(type + "'s static field is final: " + field.getName(), !constant || Modifier.isFinal(field.getModifiers()), true);
            CHECK.due(type + "'s field may be seen: " + field.getName(), type != OverFirst.class || Modifier.isPrivate(field.getModifiers())
                || field.getName().equals("NONE"), true);
        }
        CHECK.due(type + " has " + own + " fields", own <= 20, true);
    }

    private static void calls() {
        CallGraph graph = CallGraph.of(OverFirst.class);
        if (graph == null) {
            System.out.println("no javap here: how deep calls go is not tested");
            return;
        }
        CHECK.due("methods are seen in the compiled class: " + graph.methods(), graph.methods() > 150, true);
        Set<String> face = new HashSet<>();
        for (Method method : OverFirst.class.getDeclaredMethods()) {
            if (Modifier.isPublic(method.getModifiers())) {
                face.add("OverFirst." + method.getName());
            }
        }
        face.add("OverFirst.\"<init>\"");
        for (String method : graph.all()) {
            CHECK.due(method + " goes " + graph.depth(method) + " calls deep", graph.depth(method) <= 8, true);
        }
        CHECK.due("methods that nothing calls: " + graph.idle(face), graph.idle(face).isEmpty(), true);
        for (String called : graph.library) {
            CHECK.due("called of the library: " + called, LIBRARY.matcher(called).matches(), true);
        }
    }
}
