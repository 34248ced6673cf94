import java.io.IOException;
import java.lang.reflect.Field;
import java.lang.reflect.Method;
import java.lang.reflect.Modifier;
import java.nio.file.Files;
import java.nio.file.Path;
import java.util.ArrayList;
import java.util.List;
import java.util.Set;
import java.util.TreeSet;
import java.util.regex.Matcher;
import java.util.regex.Pattern;

/** The class's face, and the rules of LANGUAGE.md that can be looked up in the text or the compiled class. */
public final class LanguageTest {
    private static final Path SOURCE = Path.of("src/main/java/SnowSchool.java");
    private static final Path DOCUMENT = Path.of("../shared/DOC.md");
    private static final String[] FORBIDDEN = {"throw", "throws", "try", "catch", "finally", "synchronized", "assert",
        "volatile", "native", "protected", "package", "var", "System\\.(?!arraycopy)\\w+", "Thread", "Random", "Object",
        "\\w+Exact", "hashCode", "toString", "equals", "getClass", "->", "::", "for \\(;;", "while \\(true"};
    private static final Pattern IMPORT = Pattern.compile("import ([^;]+);");
    private static final Pattern LIBRARY = Pattern.compile("\\b(Arrays|Integer|Long|Math|System|String|List)\\.\\w+");
    private static final Set<String> LIBRARY_USED = Set.of("Arrays.fill", "Integer.bitCount", "Math.max", "Math.min",
        "System.arraycopy");
    private static final Set<Class<?>> NUMBERS = Set.of(int.class, long.class, boolean.class);

    private static int wrong;
    private static int looked;

    private static void hold(boolean holds, String rule) {
        looked++;
        if (!holds) {
            wrong++;
            System.out.println("not so: " + rule);
        }
    }

    private static void faceIsTheDocuments() throws IOException {
        Set<String> wanted = new TreeSet<>();
        Matcher line = Pattern.compile("(?m)^    public int (\\w+)\\(([^)]*)\\);").matcher(Files.readString(DOCUMENT));
        while (line.find()) {
            wanted.add(line.group(1) + "(" + line.group(2).replaceAll(" \\w+(?=,|$)", "") + ")");
        }
        Set<String> found = new TreeSet<>();
        for (Method m : SnowSchool.class.getDeclaredMethods()) {
            if (!Modifier.isPrivate(m.getModifiers())) {
                List<String> types = new ArrayList<>();
                for (Class<?> type : m.getParameterTypes()) {
                    types.add(type.getName());
                }
                found.add(m.getName() + "(" + String.join(", ", types) + ")");
                hold(Modifier.isPublic(m.getModifiers()) && m.getReturnType() == int.class, m + " is public and int");
            }
        }
        hold(wanted.size() == 37, "the document has 37 calls: " + wanted.size());
        hold(wanted.equals(found), "the face is " + wanted + ", not " + found);
        int modifiers = SnowSchool.class.getModifiers();
        hold(Modifier.isPublic(modifiers) && Modifier.isFinal(modifiers), "the class is public and final");
        hold(SnowSchool.class.getDeclaredConstructors().length == 1, "it has one constructor");
        hold(SnowSchool.class.getConstructors().length == 1, "which is public");
    }

    private static void membersAreHidden() {
        Set<String> face = new TreeSet<>();
        for (Method m : SnowSchool.class.getMethods()) {
            face.add(m.getName());
        }
        for (Method m : SnowSchool.class.getDeclaredMethods()) {
            boolean isHidden = Modifier.isPrivate(m.getModifiers());
            hold(!isHidden || !face.contains(m.getName()), m + " bears no name of the face");
        }
        for (Field f : SnowSchool.class.getDeclaredFields()) {
            hold(Modifier.isPrivate(f.getModifiers()), f + " is private");
        }
        List<Class<?>> all = new ArrayList<>(List.of(SnowSchool.class.getDeclaredClasses()));
        for (Class<?> inside : all) {
            hold(Modifier.isStatic(inside.getModifiers()), inside + " is static");
            hold(!Modifier.isPublic(inside.getModifiers()), inside + " is not public");
            for (Method m : inside.getDeclaredMethods()) {
                hold(!face.contains(m.getName()), m + " bears no name of the face");
            }
        }
        all.add(SnowSchool.class);
        hold(all.size() <= 12, "twelve classes at most");
        for (Class<?> one : all) {
            sizesOf(one);
        }
    }

    private static void sizesOf(Class<?> one) {
        int fields = 0;
        for (Field f : one.getDeclaredFields()) {
            boolean isStatic = Modifier.isStatic(f.getModifiers());
            hold(!isStatic || Modifier.isFinal(f.getModifiers()), f + " is final or not static");
            fields += isStatic ? 0 : 1;
            hold(isStatic ? isConstantType(f.getType()) : isFieldType(f.getType()), f + " is of a type that may be");
        }
        hold(fields <= 20, one + " has twenty fields at most");
        for (Method m : one.getDeclaredMethods()) {
            hold(m.getParameterCount() <= 7, m + " takes seven parameters at most");
            hold(!m.isSynthetic(), m + " is written out");
        }
    }

    private static boolean isConstantType(Class<?> type) {
        return NUMBERS.contains(type) || type == int[].class || type == long[].class;
    }

    /** Numbers, rows and tables of them, own classes and rows of these. */
    private static boolean isFieldType(Class<?> type) {
        Class<?> inner = type.isArray() ? type.getComponentType() : type;
        boolean isOwn = inner.getDeclaringClass() == SnowSchool.class;
        boolean isTable = inner == int[].class || inner == long[].class;
        return NUMBERS.contains(inner) || isOwn || isTable;
    }

    private static void textKeepsToTheRules() throws IOException {
        String text = Files.readString(SOURCE);
        for (char c : text.toCharArray()) {
            if (c > 126) {
                hold(false, "all signs are plain: " + c);
            }
        }
        String code = text.replaceAll("(?s)/\\*.*?\\*/", "").replaceAll("//[^\n]*", "");
        for (String word : FORBIDDEN) {
            String bounded = Character.isLetter(word.charAt(0)) || word.startsWith("\\w") ? "\\b" + word + "\\b" : word;
            Matcher m = Pattern.compile(bounded).matcher(code);
            hold(!m.find(), "no '" + word + "' in the class");
        }
        Set<String> imports = new TreeSet<>();
        Matcher m = IMPORT.matcher(code);
        while (m.find()) {
            imports.add(m.group(1));
        }
        hold(Set.of("java.util.Arrays").equals(imports), "only java.util.Arrays: " + imports);
        Matcher library = LIBRARY.matcher(code.replaceAll("import [^;]+;", ""));
        while (library.find()) {
            hold(LIBRARY_USED.contains(library.group()), library.group() + " is not of the library that is listed");
        }
        methodsAreShort(code);
    }

    private static void methodsAreShort(String code) {
        int length = 0;
        for (String line : code.split("\n")) {
            length++;
            if (line.matches("( {4}| {8})}")) {
                hold(length <= 60, "sixty lines a method at most");
            }
            if (line.isBlank() || line.matches("( {4}| {8})}") || line.contains(" class ")) {
                length = 0;
            }
        }
    }

    public static void main(String[] args) throws IOException {
        faceIsTheDocuments();
        membersAreHidden();
        textKeepsToTheRules();
        System.out.println(looked + " rules looked at, " + wrong + " not kept");
        if (wrong != 0) {
            System.exit(1);
        }
    }
}
