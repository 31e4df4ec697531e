import java.io.IOException;
import java.lang.reflect.Constructor;
import java.lang.reflect.Field;
import java.lang.reflect.Method;
import java.lang.reflect.Modifier;
import java.nio.file.Files;
import java.nio.file.Path;
import java.util.Set;
import java.util.TreeSet;
import java.util.regex.Matcher;
import java.util.regex.Pattern;

/** The face is the document's and no more, and the file keeps to what can be seen of LANGUAGE.md in its text. */
public final class FaceTest {
    private static final Due D = new Due();
    private static final String FACE = """
        int sign(int)
        boolean end(int)
        int piles()
        int thing(int,int) throws
        int ends(int)
        int sheet(int,int,int,int)
        int may(int)
        int move(int)
        int undo()
        int begin()
        int judge(int,int,int,int)
        int taken()
        int wins()
        int would(int,int)
        int soon()
        int leave()
        int states()
        long lines(int)
        int forced()
        int tempo(int)
        int value()
        int alone(int)
        int heap(int)
        int heaps()
        int make(int)
        int joined()
        int alike(int,int)
        int wall(int,int,int,int)
        int best()
        int gets(int,int)
        int greedy()
        int limits()
        int mean()
        boolean likes(int,int)
        int parrot(int)
        int parrots()
        int out(int)
        int notary(int,int)
        int change()
        int single()
        boolean keep(int)
        boolean again(int)
        int count(int)
        long row(int) throws
        """;

    public static void main(String[] args) throws IOException {
        members();
        names();
        source(Files.readString(Path.of("src/main/java/AllAboveIt.java")));
        D.close("FaceTest");
    }

    private static String told(Method m) {
        StringBuilder s = new StringBuilder(m.getReturnType().getSimpleName()).append(' ').append(m.getName());
        s.append('(');
        for (int k = 0; k < m.getParameterCount(); k++) {
            s.append(k == 0 ? "" : ",").append(m.getParameterTypes()[k].getSimpleName());
        }
        s.append(')');
        for (Class<?> e : m.getExceptionTypes()) {
            s.append(e == java.util.NoSuchElementException.class ? " throws" : " throws another");
        }
        return s.toString();
    }

    private static void members() {
        Set<String> found = new TreeSet<>();
        for (Method m : AllAboveIt.class.getDeclaredMethods()) {
            if (!Modifier.isPrivate(m.getModifiers())) {
                found.add(told(m));
                D.due("public: " + m, Modifier.isPublic(m.getModifiers()), true);
                D.due("not static: " + m, Modifier.isStatic(m.getModifiers()), false);
            }
        }
        D.due("the methods", found.toString(), new TreeSet<>(FACE.lines().toList()).toString());
        for (Field f : AllAboveIt.class.getDeclaredFields()) {
            boolean constant = f.getName().equals("NONE");
            D.due("field " + f.getName(), Modifier.isPrivate(f.getModifiers()), !constant);
        }
        Constructor<?>[] constructors = AllAboveIt.class.getDeclaredConstructors();
        D.due("constructors", constructors.length, 1);
        D.due("it is public", Modifier.isPublic(constructors[0].getModifiers()), true);
        D.due("final", Modifier.isFinal(AllAboveIt.class.getModifiers()), true);
        D.due("NONE", AllAboveIt.NONE, -1);
    }

    private static void names() {
        Set<String> open = new TreeSet<>();
        for (Method m : AllAboveIt.class.getMethods()) {
            open.add(m.getName());
        }
        Class<?>[] inside = AllAboveIt.class.getDeclaredClasses();
        D.due("at most twelve classes", inside.length < 12, true);
        for (Class<?> c : inside) {
            D.due("static: " + c, Modifier.isStatic(c.getModifiers()), true);
            for (Method m : c.getDeclaredMethods()) {
                D.due("not named as one of the face: " + m, open.contains(m.getName()), false);
                D.due("at most seven parameters: " + m, m.getParameterCount() <= 7, true);
            }
            for (Field f : c.getDeclaredFields()) {
                boolean isStatic = Modifier.isStatic(f.getModifiers());
                D.due("static and final: " + f, isStatic && !Modifier.isFinal(f.getModifiers()), false);
            }
        }
    }

    private static void source(String file) {
        String code = file.replaceAll("(?s)/\\*.*?\\*/", "").replaceAll("//[^\\n]*", "");
        String[] never = {"->", "::", "\\bcatch\\b", "\\bfinally\\b", "\\bsynchronized\\b", "\\bassert\\b",
            "static \\{", "\\bSystem\\.(?!arraycopy)", "\\bThread\\b", "\\bRandom\\b", "Exact\\(", "\\bdouble\\b",
            "\\bfloat\\b", "\\bprotected\\b", "\\bpackage\\b", "hashCode", "\\btoString\\b", "\\bwhile\\b"};
        for (String one : never) {
            Matcher m = Pattern.compile(one).matcher(code);
            D.due("the file has " + one, m.find(), false);
        }
        Matcher imports = Pattern.compile("(?m)^import (.*);").matcher(code);
        while (imports.find()) {
            D.due("import", imports.group(1), "java.util.NoSuchElementException");
        }
        Matcher thrown = Pattern.compile("throw new (\\w+)\\(").matcher(code);
        while (thrown.find()) {
            D.due("throw", thrown.group(1), "NoSuchElementException");
        }
        int from = 0;
        for (String line : code.split("\n")) {
            boolean inside = line.contains(" if (") || line.contains(" for (");
            if (line.startsWith("    ") && line.endsWith(") {") && !inside) {
                from = 0;
            }
            from++;
            D.due("a method's lines: " + line, from <= 60, true);
        }
        for (int i = 0; i < file.length(); i++) {
            D.due("a sign of the file at " + i, file.charAt(i) < 128, true);
        }
    }
}
