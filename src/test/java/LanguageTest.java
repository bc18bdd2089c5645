import java.lang.reflect.Constructor;
import java.lang.reflect.Field;
import java.lang.reflect.Method;
import java.lang.reflect.Modifier;
import java.nio.file.Files;
import java.nio.file.Path;
import java.util.ArrayList;
import java.util.HashSet;
import java.util.List;
import java.util.Set;
import java.util.TreeSet;
import java.util.regex.Matcher;
import java.util.regex.Pattern;

/** What of LANGUAGE.md a test can see: the face, the sizes, the words that the program may not hold. */
public final class LanguageTest {
    private static int wrong;

    public static void main(String[] args) throws Exception {
        face();
        inside();
        text(plain(Files.readString(Path.of("src/main/java/MadeWhere.java"))));
        System.out.println(wrong == 0 ? "the rules that can be seen are kept" : wrong + " faults of language");
        if (wrong != 0) System.exit(1);
    }

    private static void ok(boolean holds, String what) {
        if (holds) return;
        wrong++;
        System.out.println(what);
    }

    private static void face() {
        Set<String> due = new TreeSet<>(List.of("int days(int)", "boolean members(int,int,int)", "int member(int,int,int)",
            "int feed(int,int,int,int,int)", "boolean end(int)", "int fault()", "int protocol(int,int)", "int force(int,int,int)",
            "boolean tariff(int,int,int)", "int grown(int,int,int,int)", "int lay(int,int)", "int pour(int,int,int)",
            "int draw(int,int)", "int clear()", "int made(int,int,int,int,int)", "boolean mend(int,int)", "boolean undo(int)",
            "int told(int,int)", "int entry(int,int,int)", "int own(int,int,int)", "int letter(int,int,int,int)",
            "int failing(int,int,int)", "int ship(int,int,int,int,int)", "boolean paper(int,int)", "int state(int,int)",
            "long duty(int,int)", "int book()", "long line(int,int)", "int offer(int,int,int,int,int)", "void offers()",
            "long best(int,int,int,int,int)", "int chosen(int,int,int,int,int,int)", "int moved(int,int)", "int word(int,int)",
            "int struck(int)", "int strike(int,int)", "int check(int,long,int)", "int count(int)"));
        Set<String> found = new TreeSet<>();
        Set<String> names = new HashSet<>();
        for (Method m : MadeWhere.class.getDeclaredMethods()) {
            if (Modifier.isPrivate(m.getModifiers())) continue;
            found.add(shape(m));
            names.add(m.getName());
            ok(Modifier.isPublic(m.getModifiers()) && !Modifier.isStatic(m.getModifiers()), m + " is not of the face");
        }
        ok(due.equals(found), "the face is " + found + ", due is " + due);
        for (Class<?> c : all()) {
            for (Method m : c.getDeclaredMethods()) {
                boolean hidden = c != MadeWhere.class || Modifier.isPrivate(m.getModifiers());
                ok(!hidden || !names.contains(m.getName()), m + " bears a public name");
            }
        }
        for (Field f : MadeWhere.class.getDeclaredFields()) {
            boolean none = f.getName().equals("NONE") && Modifier.isPublic(f.getModifiers());
            ok(none || Modifier.isPrivate(f.getModifiers()), f + " can be seen");
        }
        Constructor<?>[] makers = MadeWhere.class.getDeclaredConstructors();
        ok(makers.length == 1 && Modifier.isPublic(makers[0].getModifiers()) && makers[0].getParameterCount() == 0, "constructors");
        ok(Modifier.isFinal(MadeWhere.class.getModifiers()), "the class is not final");
    }

    private static String shape(Method m) {
        StringBuilder s = new StringBuilder(m.getReturnType() + " " + m.getName() + "(");
        for (Class<?> p : m.getParameterTypes()) s.append(s.charAt(s.length() - 1) == '(' ? "" : ",").append(p);
        return s.append(")").toString();
    }

    private static List<Class<?>> all() {
        List<Class<?>> all = new ArrayList<>(List.of(MadeWhere.class.getDeclaredClasses()));
        all.add(MadeWhere.class);
        return all;
    }

    private static void inside() {
        ok(all().size() <= 12, all().size() + " classes");
        for (Class<?> c : all()) {
            int fields = 0;
            for (Field f : c.getDeclaredFields()) {
                if (!Modifier.isStatic(f.getModifiers())) fields++;
                else ok(Modifier.isFinal(f.getModifiers()), f + " is static and not final");
            }
            ok(fields <= 20, c + " has " + fields + " fields");
            ok(c == MadeWhere.class || Modifier.isStatic(c.getModifiers()) && Modifier.isPrivate(c.getModifiers()), c + " is not private static");
            for (Method m : c.getDeclaredMethods()) ok(m.getParameterCount() <= 7, m + " takes too much");
        }
    }

    /** Without comments, texts and signs. */
    private static String plain(String source) {
        return source.replaceAll("/\\*(?s:.*?)\\*/", "").replaceAll("\"(\\\\.|[^\"\\\\])*\"", "\"\"")
            .replaceAll("'(\\\\.|[^'\\\\])'", "' '").replaceAll("//[^\n]*", "");
    }

    private static void text(String source) {
        String[] barred = {"->", "::", "\\bfinally\\b", "\\bsynchronized\\b", "\\bassert\\b", "Exact\\b", "\\bvar\\b", "\\bcatch\\b",
            "\\btry\\b", "\\bgetMessage\\b", "\\bequals\\b", "\\bhashCode\\b", "\\btoString\\b", "\\bObject\\b", "\\bThread\\b",
            "\\bRandom\\b", "\\bNaN\\b", "\\bprotected\\b", "\\bvolatile\\b", "\\bnative\\b", "\\btransient\\b", "\\binterface\\b",
            "\"\\s*\\+", "\\+\\s*\"", "System\\.(?!arraycopy)", "Math\\.(?!(min|max)\\()", "@", "\\bpackage\\b", "\\bthis\\b",
            "while \\(true\\)", "for \\(;;\\)", "static \\{"};
        for (String b : barred) {
            Matcher m = Pattern.compile(b).matcher(source);
            ok(!m.find(), "the program holds " + b);
        }
        Matcher imports = Pattern.compile("import ([^;]+);").matcher(source);
        while (imports.find()) ok(imports.group(1).equals("java.util.NoSuchElementException"), imports.group());
        Matcher thrown = Pattern.compile("throw ([^;]+);").matcher(source);
        while (thrown.find()) ok(thrown.group(1).equals("new NoSuchElementException()"), thrown.group());
        for (int i = 0; i < source.length(); i++) ok(source.charAt(i) < 128, "a sign above 127 at " + i);
        methodLengths(source.split("\n"));
    }

    private static void methodLengths(String[] lines) {
        for (int i = 0; i < lines.length; i++) {
            if (!lines[i].matches("\\s+[\\w\\[\\]. ]+\\(.*\\)( throws \\w+)? \\{") || lines[i].matches("\\s+(if|for|while|switch).*")) continue;
            String close = lines[i].replaceAll("\\S.*", "") + "}";
            int end = i;
            while (end < lines.length && !lines[end].equals(close)) end++;
            ok(end - i <= 60, "a method of " + (end - i) + " lines: " + lines[i]);
        }
    }
}
