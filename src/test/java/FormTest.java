import java.lang.reflect.Constructor;
import java.lang.reflect.Field;
import java.lang.reflect.Method;
import java.lang.reflect.Modifier;
import java.nio.file.Files;
import java.nio.file.Path;
import java.util.List;
import java.util.Set;
import java.util.TreeSet;
import java.util.regex.Matcher;
import java.util.regex.Pattern;

/** The face that the document gives, and those rules of LANGUAGE.md that can be read off the source. */
public final class FormTest {
    private static final String FACE = "int feed(int,int,int,int,int);int end(int);int tell();int relate(int,int);"
            + "int form(int,int,int);int make(int,int);int put(int,int,int,int);int reckon(int,int,int,int);"
            + "int invert(int,int);int raise(int,int,int);int data(int,long);int point(int,int);int undo();"
            + "int keep(int);long value(int,int,int);int same(int,int);int about(int,int);int bound(int,int,int);"
            + "long chains(int,int,int);long moebius(int,int,int);long multichains(int,int,int);long sets(int,int);"
            + "int type(int,int);int split(int,int,int);long reduced(int,int);long summed(int,int);"
            + "long gotBack(int,int);int mapped(int);int adjoint(int);long side(int,int,int);long coefficient(int);"
            + "int count(int)";
    private static int wrong;

    private static void check(boolean holds, String what) {
        if (!holds) {
            wrong++;
            System.out.println("not so: " + what);
        }
    }

    private static String told(Method m) {
        StringBuilder text = new StringBuilder(m.getReturnType().getName() + " " + m.getName() + "(");
        for (int i = 0; i < m.getParameterCount(); i++) {
            text.append(i == 0 ? "" : ",").append(m.getParameterTypes()[i].getName());
        }
        return text.append(")").toString();
    }

    private static void face() {
        Class<?> c = OrderAlgebra.class;
        check(Modifier.isFinal(c.getModifiers()) && Modifier.isPublic(c.getModifiers()), "public final class");
        Set<String> due = new TreeSet<>(List.of(FACE.split(";")));
        Set<String> names = new TreeSet<>();
        Set<String> found = new TreeSet<>();
        for (Method m : c.getDeclaredMethods()) {
            boolean open = Modifier.isPublic(m.getModifiers()) && !Modifier.isStatic(m.getModifiers());
            check(open || Modifier.isPrivate(m.getModifiers()), m + " is public or private");
            if (open) {
                found.add(told(m));
                names.add(m.getName());
            }
        }
        check(found.equals(due), "the methods are those of the document: " + found);
        for (Constructor<?> made : c.getDeclaredConstructors()) {
            check(Modifier.isPublic(made.getModifiers()) && made.getParameterCount() == 0, "one constructor");
        }
        fields(c);
        privateNames(c, names);
        for (Class<?> inside : c.getDeclaredClasses()) {
            check(Modifier.isStatic(inside.getModifiers()), inside + " is static");
            privateNames(inside, names);
            fields(inside);
        }
        check(c.getDeclaredClasses().length <= 12, "at most twelve classes");
    }

    private static void fields(Class<?> c) {
        int own = 0;
        for (Field f : c.getDeclaredFields()) {
            boolean fixed = Modifier.isStatic(f.getModifiers());
            own += fixed ? 0 : 1;
            check(!fixed || Modifier.isFinal(f.getModifiers()), f + " is final");
            boolean face = c == OrderAlgebra.class;
            check(!face || Modifier.isPrivate(f.getModifiers()) || f.getName().equals("NONE"), f + " is private");
        }
        check(own <= 20, c + " has at most twenty fields");
    }

    private static void privateNames(Class<?> c, Set<String> names) {
        for (Method m : c.getDeclaredMethods()) {
            boolean face = c == OrderAlgebra.class && Modifier.isPublic(m.getModifiers());
            check(face || !names.contains(m.getName()), m + " bears a name of its own");
            check(m.getParameterCount() <= 7, m + " has at most seven parameters");
        }
    }

    /** Without comments, and with what stands in quotes blotted out. */
    private static String code(String source) {
        String bare = source.replaceAll("(?s)/\\*.*?\\*/", "").replaceAll("//[^\n]*", "");
        return bare.replaceAll("\"[^\"\n]*\"", "\"\"").replaceAll("'[^'\n]'", "' '");
    }

    private static void source() throws java.io.IOException {
        String text = Files.readString(Path.of("src/main/java/OrderAlgebra.java"));
        String code = code(text);
        check(text.chars().allMatch(sign -> sign == '\n' || sign >= 32 && sign < 127), "plain signs alone");
        for (String word : new String[] {"throw", "try", "catch", "synchronized", "assert", "package", "protected",
            "hashCode", "toString", "yield", "var", "double", "float", "native", "volatile", "Object"}) {
            check(!Pattern.compile("\\b" + word + "\\b").matcher(code).find(), "no " + word);
        }
        check(!code.contains("->") && !code.contains("::") && !code.contains("Exact"), "no lambda, no Exact");
        check(!Pattern.compile("static\\s*\\{").matcher(code).find(), "no static block");
        Matcher imports = Pattern.compile("import ([^;]*);").matcher(code);
        while (imports.find()) {
            check(imports.group(1).equals("java.util.Arrays"), imports.group());
        }
        Matcher library = Pattern.compile("\\b(Arrays|System|Integer|Long|Math)\\.(\\w+)").matcher(code);
        Set<String> known = Set.of("Arrays.fill", "System.arraycopy", "Integer.bitCount", "Long.MIN_VALUE", "Math.min",
                "Math.max");
        while (library.find()) {
            check(known.contains(library.group()), library.group() + " is of the library that is used");
        }
        lengths(text);
    }

    private static void lengths(String text) {
        String[] lines = text.split("\n");
        int begun = 0;
        for (int i = 0; i < lines.length; i++) {
            check(lines[i].length() <= 120, "line " + (i + 1) + " is short");
            if (lines[i].matches("( {4}| {8})(public |private |static )*[\\w\\[\\]<>]+ \\w+\\(.*\\{")) {
                begun = i;
            }
            if (lines[i].equals("    }") || lines[i].equals("        }")) {
                check(begun == 0 || i - begun <= 60, "the method at line " + (begun + 1) + " is short");
                begun = 0;
            }
        }
    }

    public static void main(String[] args) throws java.io.IOException {
        face();
        source();
        System.out.println(wrong == 0 ? "the form is as bound" : wrong + " things are not so");
        if (wrong != 0) {
            System.exit(1);
        }
    }
}
