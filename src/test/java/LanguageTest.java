import java.lang.reflect.Constructor;
import java.lang.reflect.Field;
import java.lang.reflect.Method;
import java.lang.reflect.Modifier;
import java.nio.file.Files;
import java.nio.file.Path;
import java.util.Arrays;
import java.util.Set;
import java.util.TreeSet;
import java.util.regex.Matcher;
import java.util.regex.Pattern;

/** What of LANGUAGE.md and of the document's face can be seen from the source and from the compiled classes. */
public final class LanguageTest {
    private static final String[] FACE = {
        "int letter(int)", "int poly()", "int drop()", "int prime(int)", "int turn(int,int,int)",
        "int change(int,int,int,int)", "int coefficient(int,int,int)", "int of(int,int)", "int term(int,int,int)",
        "int value(int,int,int)", "int rows(int,int,int,int)", "int entry(int,int,int,int,int,int,int)",
        "int result(int,int,int,int,int)", "int degree(int,int,int,int)", "int at(int,int,int,int,int)",
        "int remainder(int,int,int,int,int)", "int common(int,int,int,int)", "int norm(int,int,int,int)",
        "int extra(int,int,int)", "int zeros(int,int,int)", "int lifted(int,int,int)", "int root(int,int,int)",
        "int without(int,int)", "int corner(int,int)", "int area(int)", "int sum(int,int,int)", "int mixed(int,int)",
        "int product(int,int)", "long odds(int,int)", "int lots(int,int,int,int)", "int list(int,int)",
        "int put(int,int,int)", "long look(int,int)", "int lays(int,int,int,int,int,int)",
        "int judge(int,int,int,int,int)", "int undo()", "int image()", "int on()", "int count(int)"};
    private static final String[] FORBIDDEN = {
        "throw", "throws", "try", "catch", "finally", "synchronized", "assert", "package", "protected", "volatile",
        "transient", "native", "strictfp", "var", "sealed", "yield", "Exception", "System.exit", "System.out",
        "System.nanoTime", "System.currentTimeMillis", "Object", "hashCode", "toString", "Thread", "Random"};
    private static int wrong;

    public static void main(String[] args) throws Exception {
        String source = Files.readString(Path.of(args[0]));
        String code = withoutComments(source);
        face();
        words(code);
        library(code);
        statics();
        methods(code);
        System.out.println(wrong == 0 ? "the language is kept" : wrong + " rules are not kept");
        if (wrong != 0) {
            System.exit(1);
        }
    }

    private static void hold(boolean holds, String what) {
        if (!holds) {
            wrong++;
            System.out.println(what);
        }
    }

    private static String withoutComments(String source) {
        return source.replaceAll("(?s)/\\*.*?\\*/", " ").replaceAll("//[^\n]*", " ");
    }

    private static void face() {
        Class<?> c = LettersEliminated.class;
        Set<String> publicNames = new TreeSet<>();
        Set<String> own = new TreeSet<>();
        for (Method m : c.getDeclaredMethods()) {
            if (m.isSynthetic()) {
                continue;
            }
            if (Modifier.isPublic(m.getModifiers())) {
                publicNames.add(m.getName());
                own.add(m.getReturnType() + " " + m.getName()
                    + Arrays.toString(m.getParameterTypes()).replace('[', '(').replace(']', ')').replace(" ", ""));
            } else {
                hold(Modifier.isPrivate(m.getModifiers()), "rule 1: " + m);
            }
        }
        hold(own.equals(new TreeSet<>(Arrays.asList(FACE))), "the face is not the document's: " + own);
        hold(Modifier.isFinal(c.getModifiers()) && Modifier.isPublic(c.getModifiers()), "rule 1: public and final");
        Constructor<?>[] made = c.getDeclaredConstructors();
        hold(made.length == 1 && Modifier.isPublic(made[0].getModifiers()), "rule 1: the constructor");
        for (Field f : c.getDeclaredFields()) {
            hold(f.isSynthetic() || Modifier.isPrivate(f.getModifiers()), "rule 1: " + f);
        }
        hold(c.getDeclaredClasses().length < 12, "rule 11: too many classes");
        for (Class<?> inner : c.getDeclaredClasses()) {
            hold(Modifier.isStatic(inner.getModifiers()) && !Modifier.isPublic(inner.getModifiers()), "rule 2: " + inner);
            for (Method m : inner.getDeclaredMethods()) {
                hold(!publicNames.contains(m.getName()), "rule 1: the name of " + m);
            }
        }
        for (Method m : c.getDeclaredMethods()) {
            hold(Modifier.isPublic(m.getModifiers()) || !publicNames.contains(m.getName()), "rule 1: the name of " + m);
        }
    }

    private static void words(String code) {
        for (String word : FORBIDDEN) {
            hold(!Pattern.compile("\\b" + Pattern.quote(word) + "\\b").matcher(code).find(), "forbidden: " + word);
        }
        hold(!code.contains("->") && !code.contains("::"), "rule 2: lambda or method reference");
        hold(!Pattern.compile("static\\s*\\{").matcher(code).find(), "rule 5: static block");
        hold(!Pattern.compile("while\\s*\\(\\s*true").matcher(code).find(), "rule 9: a loop without an end");
        hold(!Pattern.compile("for\\s*\\([^;]*;\\s*;").matcher(code).find(), "rule 9: a loop without an end");
        hold(!code.contains("\""), "no texts are needed");
    }

    private static void library(String code) {
        Matcher imports = Pattern.compile("import\\s+([\\w.*]+);").matcher(code);
        while (imports.find()) {
            hold(imports.group(1).equals("java.util.Arrays"), "rule 4: " + imports.group(1));
        }
        Set<String> allowed = Set.of("Math.max", "Math.min", "Math.floorMod", "Integer.bitCount",
            "System.arraycopy", "Arrays.fill");
        Matcher used = Pattern.compile("\\b(?:Math|Integer|Long|System|Arrays|String|List|ArrayList)\\.\\w+").matcher(code);
        while (used.find()) {
            hold(allowed.contains(used.group()) || used.group().equals("Arrays.fill"), "rule 4: " + used.group());
        }
        hold(!code.contains("boolean["), "rule 4: Arrays.fill is over numbers alone");
    }

    private static void statics() {
        for (Class<?> c : LettersEliminated.class.getDeclaredClasses()) {
            int fields = 0;
            for (Field f : c.getDeclaredFields()) {
                boolean isStatic = Modifier.isStatic(f.getModifiers());
                hold(!isStatic || Modifier.isFinal(f.getModifiers()), "rule 5: " + f);
                fields += isStatic ? 0 : 1;
            }
            hold(fields <= 20, "rule 11: fields of " + c);
            for (Method m : c.getDeclaredMethods()) {
                hold(m.getParameterCount() <= 7, "rule 11: " + m);
            }
        }
        for (Field f : LettersEliminated.class.getDeclaredFields()) {
            hold(!Modifier.isStatic(f.getModifiers()) || Modifier.isFinal(f.getModifiers()), "rule 5: " + f);
        }
    }

    /** A method begins with a line that ends in ") {" outside of a method, and ends with its indent and "}". */
    private static void methods(String code) {
        String[] lines = code.split("\n");
        Pattern head = Pattern.compile("^( {4}| {8})(?:\\w[\\w\\[\\]]* )+\\w+\\([^;]*\\) \\{$");
        for (int n = 0; n < lines.length; n++) {
            Matcher m = head.matcher(lines[n]);
            if (!m.find() || lines[n].trim().matches("(if|for|while|switch|else).*")) {
                continue;
            }
            int end = n;
            while (end < lines.length && !lines[end].equals(m.group(1) + "}")) {
                end++;
            }
            hold(end - n < 60, "rule 11: a long method: " + lines[n].trim());
        }
    }
}
