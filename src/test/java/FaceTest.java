import java.lang.reflect.Constructor;
import java.lang.reflect.Field;
import java.lang.reflect.Method;
import java.lang.reflect.Modifier;
import java.nio.file.Files;
import java.nio.file.Path;
import java.util.ArrayList;
import java.util.List;
import java.util.TreeSet;
import java.util.regex.Matcher;
import java.util.regex.Pattern;

/** The face is the document's word for word, and the rules of the language that can be looked up are kept. */
public final class FaceTest {
    private static int wrong = 0;

    private static void check(boolean isRight, String what) {
        if (!isRight) {
            wrong++;
            System.out.println("wrong: " + what);
        }
    }

    private static List<String> faceOfDocument() throws Exception {
        String document = Files.readString(Path.of("../shared/DOC.md"));
        int from = document.indexOf("```java");
        List<String> face = new ArrayList<>();
        for (String line : document.substring(from, document.indexOf("```", from + 7)).split("\n")) {
            if (line.trim().startsWith("public ") && line.trim().endsWith(";")) {
                face.add(line.trim().substring(0, line.trim().length() - 1));
            }
        }
        return face;
    }

    private static String told(Method m) {
        StringBuilder s = new StringBuilder("public " + m.getReturnType().getSimpleName() + " " + m.getName() + "(");
        for (Class<?> type : m.getParameterTypes()) s.append(type.getSimpleName()).append(" ");
        s.append(")");
        for (Class<?> type : m.getExceptionTypes()) s.append(" ").append(type.getSimpleName());
        return s.toString();
    }

    private static String plain(String line) {
        Matcher m = Pattern.compile("public (\\w+) (\\w+)\\((.*?)\\)(?: throws (.*))?").matcher(line);
        if (!m.matches()) return line;
        StringBuilder s = new StringBuilder("public " + m.group(1) + " " + m.group(2) + "(");
        if (!m.group(3).isEmpty()) for (String p : m.group(3).split(", ")) s.append(p.split(" ")[0]).append(" ");
        s.append(")");
        if (m.group(4) != null) for (String e : m.group(4).split(", ")) s.append(" ").append(e);
        return s.toString();
    }

    private static void checkFace(List<String> face, String source) {
        TreeSet<String> due = new TreeSet<>();
        TreeSet<String> names = new TreeSet<>();
        for (String line : face) {
            check(source.contains("    " + line + " {"), "the face has not: " + line);
            if (!line.contains("Derivationdesk(")) {
                due.add(plain(line));
                names.add(plain(line).split("[ (]")[2]);
            }
        }
        TreeSet<String> got = new TreeSet<>();
        for (Method m : Derivationdesk.class.getDeclaredMethods()) {
            if (!Modifier.isPrivate(m.getModifiers())) {
                got.add(told(m));
            } else {
                check(!names.contains(m.getName()), "a private method bears the name of a public one: " + m.getName());
            }
        }
        check(due.equals(got), "the face is " + got + ", due is " + due);
        check(face.size() == 43, "the document's face has 43 lines, not " + face.size());
        for (Class<?> inside : Derivationdesk.class.getDeclaredClasses()) {
            check(Modifier.isStatic(inside.getModifiers()), inside + " is static");
            check(!Modifier.isPublic(inside.getModifiers()) && !Modifier.isProtected(inside.getModifiers()), inside + " is not public");
            check(inside.getDeclaredFields().length <= 25, inside + " has some twenty fields");
            for (Method m : inside.getDeclaredMethods()) {
                check(!names.contains(m.getName()), inside + " has a method with a public one's name: " + m.getName());
                check(m.getParameterCount() <= 7, m + " takes at most seven parameters");
            }
        }
        check(Derivationdesk.class.getDeclaredClasses().length < 12, "some twelve classes");
    }

    private static void checkMembers() {
        int modifiers = Derivationdesk.class.getModifiers();
        check(Modifier.isPublic(modifiers) && Modifier.isFinal(modifiers), "the class is public and final");
        Constructor<?>[] made = Derivationdesk.class.getDeclaredConstructors();
        check(made.length == 1 && Modifier.isPublic(made[0].getModifiers()) && made[0].getParameterCount() == 0, "one constructor");
        int fields = 0;
        for (Field f : Derivationdesk.class.getDeclaredFields()) {
            check(Modifier.isPrivate(f.getModifiers()), f + " is private");
            check(!Modifier.isStatic(f.getModifiers()) || Modifier.isFinal(f.getModifiers()), f + " is final, being static");
            fields += Modifier.isStatic(f.getModifiers()) ? 0 : 1;
        }
        check(fields <= 22, "some twenty fields");
    }

    /** Words that the rules leave out; texts and comments are taken away before. */
    private static void checkWords(String source) {
        String code = source.replaceAll("(?s)/\\*.*?\\*/", " ").replaceAll("//[^\n]*", " ");
        check(!Pattern.compile("[\"'][^\"'\n]*[^\\x01-\\x7f]").matcher(code).find(), "signs of texts are 1 to 127");
        check(!Pattern.compile("\"\\s*\\+|\\+\\s*\"").matcher(code).find(), "texts are not joined by +");
        String bare = code.replaceAll("\"[^\"\n]*\"", "\"\"").replaceAll("'.'", "' '");
        String[] ruledOut = {"import", "package", "finally", "synchronized", "assert", "->", "::", "catch", "System\\.(?!arraycopy)",
            "Exact\\b", "hashCode", "\\bequals\\b", "getMessage", "Thread", "Random", "Object", "var ", "while \\(true\\)",
            "\\bnative\\b", "\\bvolatile\\b", "\\btransient\\b", "\\[\\]\\[\\]", "\\bLong\\.", "\\bdouble\\b", "\\bfloat\\b", "\\?\\?"};
        for (String word : ruledOut) {
            Matcher m = Pattern.compile(word).matcher(bare);
            check(!m.find(), "ruled out: " + word);
        }
        check(!Pattern.compile("for \\(;;\\)").matcher(bare).find(), "a loop has an end");
        Matcher thrown = Pattern.compile("throw ([^;]*);").matcher(code);
        while (thrown.find()) {
            check(thrown.group(1).matches("new (IllegalStateException|IllegalArgumentException|IndexOutOfBoundsException)\\(\"[^\"]*\"\\)"),
                "thrown: " + thrown.group(1));
        }
    }

    private static void checkLengths(String source) {
        int from = 0;
        String head = "";
        String[] lines = source.split("\n");
        for (int i = 0; i < lines.length; i++) {
            if (lines[i].matches(" {4,8}[a-zA-Z].*\\) ?(throws .*)?\\{") && !lines[i].contains(" new ")) {
                from = i;
                head = lines[i].trim();
            }
            if (lines[i].matches(" {4,8}\\}")) {
                check(i - from <= 60, "a method has more than 60 lines: " + head);
            }
        }
    }

    public static void main(String[] args) throws Exception {
        String source = Files.readString(Path.of("src/main/java/Derivationdesk.java"));
        checkFace(faceOfDocument(), source);
        checkMembers();
        checkWords(source);
        checkLengths(source);
        System.out.println(wrong == 0 ? "the face and the words are as due" : wrong + " things are wrong");
        System.exit(wrong == 0 ? 0 : 1);
    }
}
