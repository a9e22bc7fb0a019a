import java.io.IOException;
import java.lang.reflect.Field;
import java.lang.reflect.Member;
import java.lang.reflect.Method;
import java.lang.reflect.Modifier;
import java.nio.file.Files;
import java.nio.file.Path;
import java.util.Arrays;
import java.util.List;
import java.util.Set;
import java.util.TreeSet;
import java.util.regex.Matcher;
import java.util.regex.Pattern;
import java.util.stream.Collectors;

/** The class has the document's face and no more, and keeps to those rules of LANGUAGE.md that can be looked up. */
public final class FaceTest {
    private static final Path DOC = Path.of("../shared/DOC.md");
    private static final Path SOURCE = Path.of("src/main/java/CabinetTable.java");
    private static int wrong;

    private static void due(boolean so, String what) {
        if (!so) {
            wrong++;
            System.out.println("not as due: " + what);
        }
    }

    public static void main(String[] args) throws IOException {
        String doc = Files.readString(DOC);
        face(doc.substring(doc.indexOf("```java"), doc.indexOf("## Terms")));
        classesInside();
        words(Files.readString(SOURCE));
        System.out.println(wrong == 0 ? "the face is as due" : wrong + " things are not as due");
        if (wrong != 0) {
            System.exit(1);
        }
    }

    private static String told(Method one) {
        String parameters = Arrays.stream(one.getParameterTypes()).map(Class::getName).collect(Collectors.joining(", "));
        return one.getReturnType().getName() + " " + one.getName() + "(" + parameters + ")";
    }

    private static void face(String text) {
        Set<String> want = new TreeSet<>();
        Matcher method = Pattern.compile("public int (\\w+)\\(([^)]*)\\);").matcher(text);
        while (method.find()) {
            want.add("int " + method.group(1) + "(" + method.group(2).replaceAll("int \\w+", "int") + ")");
        }
        Set<String> got = new TreeSet<>();
        for (Method one : CabinetTable.class.getDeclaredMethods()) {
            due(Modifier.isPublic(one.getModifiers()) || Modifier.isPrivate(one.getModifiers()), one + " is public or private");
            if (Modifier.isPublic(one.getModifiers())) {
                got.add(told(one));
            }
        }
        due(want.size() == 57, "the document has 57 methods");
        due(want.equals(got), "the methods " + got + " are " + want);
        int constants = 0;
        Matcher constant = Pattern.compile("([A-Z]+) = (-\\d+)").matcher(text);
        while (constant.find()) {
            constants++;
            due(isConstant(constant.group(1), Integer.parseInt(constant.group(2))), constant.group());
        }
        long publicFields = Arrays.stream(CabinetTable.class.getDeclaredFields()).filter(f -> !Modifier.isPrivate(f.getModifiers())).count();
        due(constants == 8 && publicFields == 8, "there are 8 constants");
        due(Modifier.isFinal(CabinetTable.class.getModifiers()) && Modifier.isPublic(CabinetTable.class.getModifiers()), "public, final");
        due(CabinetTable.class.getDeclaredConstructors().length == 1 && CabinetTable.class.getConstructors().length == 1, "one constructor");
    }

    private static boolean isConstant(String name, int value) {
        try {
            Field one = CabinetTable.class.getField(name);
            int all = Modifier.PUBLIC | Modifier.STATIC | Modifier.FINAL;
            return one.getType() == int.class && (one.getModifiers() & all) == all && one.getInt(null) == value;
        } catch (ReflectiveOperationException e) {
            return false;
        }
    }

    private static void classesInside() {
        Class<?>[] inside = CabinetTable.class.getDeclaredClasses();
        due(inside.length + 1 <= 12, "twelve classes at most");
        Set<String> face = Arrays.stream(CabinetTable.class.getMethods()).map(Method::getName).collect(Collectors.toSet());
        for (Class<?> one : inside) {
            due(Modifier.isPrivate(one.getModifiers()) && Modifier.isStatic(one.getModifiers()), one + " is private and static");
            for (Method method : one.getDeclaredMethods()) {
                due(!face.contains(method.getName()), method + " bears the name of a public one");
            }
        }
        for (Class<?> one : allOf(inside)) {
            sizes(one);
        }
    }

    private static List<Class<?>> allOf(Class<?>[] inside) {
        List<Class<?>> all = new java.util.ArrayList<>(List.of(inside));
        all.add(CabinetTable.class);
        return all;
    }

    private static void sizes(Class<?> one) {
        long fields = Arrays.stream(one.getDeclaredFields()).filter(f -> !Modifier.isStatic(f.getModifiers())).count();
        due(fields <= 20, one + " has twenty fields at most");
        for (Method method : one.getDeclaredMethods()) {
            due(method.getParameterCount() <= 7, method + " takes seven parameters at most");
        }
        for (Field field : one.getDeclaredFields()) {
            due(!isStatic(field) || Modifier.isFinal(field.getModifiers()), field + " is final");
        }
    }

    private static boolean isStatic(Member one) {
        return Modifier.isStatic(one.getModifiers());
    }

    private static void words(String source) {
        due(source.chars().allMatch(c -> c == 10 || c >= 32 && c < 127), "plain signs alone");
        String bare = source.replaceAll("(?s)/\\*.*?\\*/", "").replaceAll("//[^\\n]*", "").replaceAll("\"[^\"\\n]*\"", "\"\"");
        String[] ruledOut = {
            "throw", "throws", "try", "catch", "finally", "synchronized", "assert", "import", "package", "native", "volatile", "transient", "extends",
            "instanceof", "var", "Exception", "Error", "Object", "Thread", "hashCode", "toString", "\\w+Exact", "double", "float",
        };
        for (String word : ruledOut) {
            due(!Pattern.compile("\\b" + word + "\\b").matcher(bare).find(), "the word " + word + " is not used");
        }
        due(!bare.contains("->") && !bare.contains("::"), "no lambda, no method reference");
        due(!Pattern.compile("\\bstatic \\{").matcher(bare).find(), "no static initialiser block");
        Matcher library = Pattern.compile("\\b(System|Arrays|Math|Integer|Long|String|StringBuilder)\\.(\\w+)").matcher(bare);
        Set<String> known = Set.of("System.arraycopy", "Math.max", "Integer.bitCount", "Integer.numberOfTrailingZeros");
        while (library.find()) {
            due(known.contains(library.group()), library.group() + " is of the library that the rules leave");
        }
    }
}
