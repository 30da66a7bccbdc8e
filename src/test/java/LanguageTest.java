import java.lang.reflect.Member;
import java.lang.reflect.Method;
import java.lang.reflect.Modifier;
import java.nio.file.Files;
import java.nio.file.Path;
import java.util.ArrayList;
import java.util.HashSet;
import java.util.List;
import java.util.Set;
import java.util.regex.Matcher;
import java.util.regex.Pattern;

/** What of LANGUAGE.md and the document's face can be seen from the source and the class. */
public final class LanguageTest {
    private static int wrong = 0;

    private static void fault(String text) {
        wrong++;
        System.out.println("LanguageTest: " + text);
    }

    public static void main(String[] args) throws Exception {
        String source = Files.readString(Path.of(args[0]));
        forbiddenWords(bare(source));
        longMethods(source);
        classes();
        if (args.length > 1) {
            face(Files.readString(Path.of(args[1])));
        }
        System.out.println("LanguageTest: " + wrong + " wrong");
        if (wrong != 0) {
            System.exit(1);
        }
    }

    private static String bare(String source) {
        return source.replaceAll("(?s)/\\*.*?\\*/", " ").replaceAll("//[^\n]*", " ").replaceAll("\"[^\"\n]*\"", "\"\"");
    }

    private static void forbiddenWords(String source) {
        String[] none = {"\\bthrow\\b", "\\btry\\b", "\\bcatch\\b", "\\bsynchronized\\b", "\\bassert\\b", "->", "::",
            "Exact\\(", "\\bSystem\\.(?!arraycopy)", "\\bMath\\.(random|sqrt|pow)", "\\bpackage\\b", "\\bstatic\\s*\\{",
            "\\bprotected\\b", "\\bequals\\b", "\\bhashCode\\b", "\\btoString\\b", "\\bvolatile\\b", "\\bThread\\b"};
        for (String word : none) {
            Matcher m = Pattern.compile(word).matcher(source);
            if (m.find()) {
                fault("the source has " + m.group());
            }
        }
        Matcher imports = Pattern.compile("import ([^;]+);").matcher(source);
        while (imports.find()) {
            if (!imports.group(1).equals("java.util.Arrays")) {
                fault("import " + imports.group(1));
            }
        }
        if (Pattern.compile("\\bclass\\b").matcher(source).results().count() > 12) {
            fault("more than twelve classes");
        }
    }

    private static void longMethods(String source) {
        int start = -1;
        String[] lines = source.split("\n");
        for (int i = 0; i < lines.length; i++) {
            if (lines[i].matches("( {4}| {8})[a-zA-Z].*\\) \\{")) {
                start = i;
            }
            if (lines[i].matches("( {4}| {8})\\}") && start >= 0) {
                if (i - start > 60) {
                    fault("a long method: " + lines[start]);
                }
                start = -1;
            }
        }
    }

    /** Rules 1, 2 and 11, as far as the compiled classes show them. */
    private static void classes() {
        Set<String> face = new HashSet<>();
        for (Method method : EbbWreck.class.getDeclaredMethods()) {
            if (Modifier.isPublic(method.getModifiers())) {
                face.add(method.getName());
            }
        }
        List<Class<?>> all = new ArrayList<>(List.of(EbbWreck.class.getDeclaredClasses()));
        for (Class<?> inside : all) {
            if (!Modifier.isStatic(inside.getModifiers()) || Modifier.isPublic(inside.getModifiers())) {
                fault(inside.getName() + " is not static, or public");
            }
        }
        all.add(EbbWreck.class);
        for (Class<?> one : all) {
            long fields = List.of(one.getDeclaredFields()).stream().filter(f -> !Modifier.isStatic(f.getModifiers())).count();
            if (fields > 20) {
                fault(one.getName() + " has " + fields + " fields");
            }
            for (Method method : one.getDeclaredMethods()) {
                if (!Modifier.isPublic(method.getModifiers()) && face.contains(method.getName())) {
                    fault(one.getName() + "." + method.getName() + " bears the name of a public method");
                }
                if (method.getParameterCount() > 7) {
                    fault(one.getName() + "." + method.getName() + " takes more than seven parameters");
                }
            }
        }
    }

    /** The public members are those of the document's face, and nothing else is visible. */
    private static void face(String document) {
        List<String> due = new ArrayList<>();
        String told = document.substring(document.indexOf("```java"), document.indexOf("## Terms"));
        Matcher m = Pattern.compile("public int (\\w+)\\(([^)]*)\\);").matcher(told);
        while (m.find()) {
            due.add(m.group(1) + "(" + m.group(2).replaceAll(" \\w+(,|$)", "$1").replace(" ", "") + ")");
        }
        List<String> got = new ArrayList<>();
        for (Method method : EbbWreck.class.getDeclaredMethods()) {
            StringBuilder s = new StringBuilder(method.getName()).append('(');
            for (Class<?> type : method.getParameterTypes()) {
                s.append(s.charAt(s.length() - 1) == '(' ? "" : ",").append(type);
            }
            if (Modifier.isPublic(method.getModifiers())) {
                got.add(s.append(')').toString());
            }
            hidden(method);
        }
        for (Member field : EbbWreck.class.getDeclaredFields()) {
            hidden(field);
        }
        java.util.Collections.sort(due);
        java.util.Collections.sort(got);
        if (!due.equals(got)) {
            fault("the face is " + got + ", due is " + due);
        }
    }

    private static void hidden(Member member) {
        if (!Modifier.isPublic(member.getModifiers()) && !Modifier.isPrivate(member.getModifiers())) {
            fault(member.getName() + " is not private");
        }
    }
}
