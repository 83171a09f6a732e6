import java.lang.reflect.Constructor;
import java.lang.reflect.Field;
import java.lang.reflect.Member;
import java.lang.reflect.Method;
import java.lang.reflect.Modifier;
import java.nio.file.Files;
import java.nio.file.Path;
import java.util.ArrayList;
import java.util.List;
import java.util.Set;
import java.util.TreeSet;
import java.util.regex.Matcher;
import java.util.regex.Pattern;

/** The rules of LANGUAGE.md as far as a program can see them; the class's face against that of DOC.md. */
public final class LanguageTest {
    private static final String[] NOT_ALLOWED = {"->", "::", "\\btry\\b", "\\bcatch\\b", "\\bfinally\\b", "\\bassert\\b",
        "\\bsynchronized\\b", "\\bdouble\\b", "\\bfloat\\b", "\\bvar\\b", "\\bstatic \\{", "\\bObject\\b", "\\bThread\\b",
        "\\bRandom\\b", "\\bStringBuilder\\b", "\\bArrays\\b", "Exact\\b", "\\.equals\\(", "\\bhashCode\\b", "\\btoString\\b",
        "\\bwhile \\(true\\)", "for \\(;;", "\\bpackage\\b", "\\bnative\\b", "@", "\\bprotected\\b", "System\\.(?!arraycopy)"};

    private static int wrong;

    public static void main(String[] args) throws Exception {
        Path program = Path.of(args[0]);
        String source = Files.readString(program);
        String doc = Files.readString(program.toAbsolutePath().normalize()
                .resolve("../../../../../shared/DOC.md").normalize());
        face(doc);
        members();
        nested();
        words(source);
        lengths(source);
        System.exit(wrong == 0 ? 0 : 1);
    }

    private static void say(String what) {
        wrong++;
        System.out.println(what);
    }

    /** The members of the code block in "The public face" are the public ones, just so. */
    private static void face(String doc) {
        Set<String> due = new TreeSet<>();
        Matcher line = Pattern.compile("(?m)^    public (.*?)( throws (\\w+))?;$").matcher(doc);
        while (line.find()) {
            String thrown = line.group(3) == null ? "" : " throws " + line.group(3);
            due.add(line.group(1).replaceAll("(int|boolean|long) \\w+(?=[,)])", "$1") + thrown);
        }
        Set<String> got = new TreeSet<>();
        for (Method m : HallGlass.class.getDeclaredMethods()) {
            if (Modifier.isPublic(m.getModifiers())) {
                got.add(m.getReturnType() + " " + m.getName() + types(m.getParameterTypes()) + thrown(m.getExceptionTypes()));
            }
        }
        for (Constructor<?> c : HallGlass.class.getDeclaredConstructors()) {
            got.add("HallGlass" + types(c.getParameterTypes()));
        }
        for (Field f : HallGlass.class.getFields()) {
            got.add("static final " + f.getType() + " " + f.getName() + " = " + HallGlass.NONE);
        }
        if (due.size() < 50 || !due.equals(got)) {
            say("the face is " + got + "\n due is " + due);
        }
    }

    private static String types(Class<?>[] types) {
        List<String> names = new ArrayList<>();
        for (Class<?> t : types) {
            names.add(t.getSimpleName());
        }
        return "(" + String.join(", ", names) + ")";
    }

    private static String thrown(Class<?>[] types) {
        return types.length == 0 ? "" : " throws " + types[0].getSimpleName();
    }

    private static void members() {
        List<Member> all = new ArrayList<>();
        all.addAll(List.of(HallGlass.class.getDeclaredMethods()));
        all.addAll(List.of(HallGlass.class.getDeclaredFields()));
        for (Member m : all) {
            if (!Modifier.isPublic(m.getModifiers()) && !Modifier.isPrivate(m.getModifiers())) {
                say(m + " is neither public nor private");
            }
        }
        if (!Modifier.isFinal(HallGlass.class.getModifiers())) {
            say("the class is not final");
        }
        fieldsOf(HallGlass.class);
    }

    private static void nested() {
        Set<String> face = new TreeSet<>();
        for (Method m : HallGlass.class.getDeclaredMethods()) {
            if (Modifier.isPublic(m.getModifiers())) {
                face.add(m.getName());
            }
        }
        Class<?>[] classes = HallGlass.class.getDeclaredClasses();
        if (classes.length > 11) {
            say("there are " + (1 + classes.length) + " classes");
        }
        List<Method> own = new ArrayList<>(List.of(HallGlass.class.getDeclaredMethods()));
        for (Class<?> c : classes) {
            if (!Modifier.isStatic(c.getModifiers()) || !Modifier.isPrivate(c.getModifiers())) {
                say(c + " is not private and static");
            }
            fieldsOf(c);
            own.addAll(List.of(c.getDeclaredMethods()));
        }
        for (Method m : own) {
            boolean ofFace = m.getDeclaringClass() == HallGlass.class && Modifier.isPublic(m.getModifiers());
            if (!ofFace && face.contains(m.getName())) {
                say(m + " bears the name of a public method");
            }
            if (m.getParameterCount() > 7) {
                say(m + " takes too many parameters");
            }
            if (m.isSynthetic()) {
                say(m + " was made by the compiler");
            }
        }
    }

    private static void fieldsOf(Class<?> c) {
        int own = 0;
        for (Field f : c.getDeclaredFields()) {
            boolean constant = Modifier.isStatic(f.getModifiers());
            own += constant ? 0 : 1;
            if (constant && !Modifier.isFinal(f.getModifiers())) {
                say(f + " is static and not final");
            }
        }
        if (own > 20) {
            say(c + " has " + own + " fields");
        }
    }

    private static void words(String source) {
        String bare = source.replaceAll("(?s)/\\*.*?\\*/", "").replaceAll("//[^\n]*", "");
        for (String word : NOT_ALLOWED) {
            if (Pattern.compile(word).matcher(bare).find()) {
                say("the program has " + word);
            }
        }
        Matcher imports = Pattern.compile("(?m)^import (.*);$").matcher(bare);
        while (imports.find()) {
            if (!imports.group(1).equals("java.util.NoSuchElementException")) {
                say("the program imports " + imports.group(1));
            }
        }
        for (int i = 0; i < source.length(); i++) {
            if (source.charAt(i) > 126) {
                say("the program has a sign above 126 at " + i);
            }
        }
    }

    private static void lengths(String source) {
        int from = 0;
        String name = null;
        String[] lines = source.split("\n");
        for (int i = 0; i < lines.length; i++) {
            if (lines[i].matches("(    |        )[\\w].*\\) (throws \\w+ )?\\{")) {
                from = i;
                name = lines[i].trim();
            }
            if (name != null && lines[i].matches("(    |        )\\}") && i - from > 60) {
                say(name + " has " + (i - from) + " lines");
            }
        }
    }
}
