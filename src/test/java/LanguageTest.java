import java.io.IOException;
import java.lang.reflect.Constructor;
import java.lang.reflect.Field;
import java.lang.reflect.Method;
import java.lang.reflect.Modifier;
import java.nio.file.Files;
import java.nio.file.Path;
import java.util.Arrays;
import java.util.Set;
import java.util.TreeSet;

/** The rules of LANGUAGE.md that can be seen in the text and in the compiled class. */
public final class LanguageTest {
    private static final String[] FACE = {
        "int after(int,int)", "int arg(int,long)", "int as(int,long)", "int bind(int,int)", "int caught(int,int,int)",
        "int collect(int,int,int)", "int constant()", "int count(int)", "int direct(int,int)", "int drop(int,int,int)",
        "int element(int,int)", "int field(int,int,int,int)", "int filter(int,int,int)", "int find(int,int,int,long,int)",
        "int fold(int,int)", "int forget()", "int give(int,int)", "int guard(int,int,int)", "int keep()", "int last(int)",
        "int maker(int,int,long)", "int method(int,int,int,int,long)", "int nest(int,int)", "int object(int,int)",
        "int permute(int,int,long)", "int row(int,int)", "int run(int,boolean,int)", "int same(int)", "int site(int)",
        "int spread(int,int,int)", "int target(int,int)", "int varied(int)", "long result(int)", "long shape(int)",
        "long told(int,int,int)"};

    public static void main(String[] args) throws IOException {
        face();
        nested();
        text();
        Check.end("LanguageTest");
    }

    private static void face() {
        Class<?> type = HandleMirror.class;
        Check.due("public and final", type.getModifiers(), Modifier.PUBLIC | Modifier.FINAL);
        Constructor<?>[] constructors = type.getDeclaredConstructors();
        Check.due("one constructor", constructors.length, 1);
        Check.due("it is public", constructors[0].getModifiers(), Modifier.PUBLIC);
        Check.due("it takes nothing", constructors[0].getParameterCount(), 0);
        Set<String> found = new TreeSet<>();
        Set<String> names = new TreeSet<>();
        for (Method method : type.getDeclaredMethods()) {
            if (Modifier.isPrivate(method.getModifiers())) continue;
            Check.due(method + " is public", method.getModifiers(), Modifier.PUBLIC);
            found.add(signature(method));
            names.add(method.getName());
        }
        Check.due("the face: " + found, found.equals(new TreeSet<>(Arrays.asList(FACE))) ? 1 : 0, 1);
        privateNames(type, names);
        for (Class<?> inside : type.getDeclaredClasses()) privateNames(inside, names);
        constants(type);
    }

    private static String signature(Method method) {
        StringBuilder text = new StringBuilder(method.getReturnType() + " " + method.getName() + "(");
        for (Class<?> parameter : method.getParameterTypes()) {
            if (text.charAt(text.length() - 1) != '(') text.append(',');
            text.append(parameter);
        }
        return text.append(')').toString();
    }

    private static void privateNames(Class<?> type, Set<String> names) {
        for (Method method : type.getDeclaredMethods()) {
            boolean own = Modifier.isPublic(method.getModifiers()) && type == HandleMirror.class;
            Check.due(method + " has a name of its own", own || !names.contains(method.getName()) ? 1 : 0, 1);
            Check.due(method + " has seven parameters at most", method.getParameterCount() <= 7 ? 1 : 0, 1);
        }
    }

    private static void constants(Class<?> type) {
        String[] names = {"NONE", "UNKNOWN", "OUTSIDE", "STATE", "FULL", "NO_METHOD", "NO_FIELD", "NO_ACCESS", "WRONG_TYPE"};
        int[] values = {-1, -101, -102, -103, -104, -111, -112, -113, -114};
        int found = 0;
        for (Field field : type.getDeclaredFields()) {
            if (Modifier.isPrivate(field.getModifiers())) continue;
            int i = Arrays.asList(names).indexOf(field.getName());
            Check.due(field + " is a constant", i >= 0 ? 1 : 0, 1);
            Check.due(field + " is public, static and final", field.getModifiers(), Modifier.PUBLIC | Modifier.STATIC | Modifier.FINAL);
            try {
                Check.due(field + "", field.getInt(null), values[i]);
            } catch (IllegalAccessException e) {
                throw new IllegalStateException(e);
            }
            found++;
        }
        Check.due("constants", found, names.length);
    }

    private static void nested() {
        Class<?>[] classes = HandleMirror.class.getDeclaredClasses();
        Check.due("twelve classes at most", classes.length + 1 <= 12 ? 1 : 0, 1);
        for (Class<?> type : classes) {
            Check.due(type + " is static", Modifier.isStatic(type.getModifiers()) ? 1 : 0, 1);
            Check.due(type + " is not public", type.getModifiers() & (Modifier.PUBLIC | Modifier.PROTECTED), 0);
            int own = 0;
            for (Field field : type.getDeclaredFields()) {
                boolean isStatic = Modifier.isStatic(field.getModifiers());
                if (!isStatic) own++;
                Check.due(field + " is final, if static", !isStatic || Modifier.isFinal(field.getModifiers()) ? 1 : 0, 1);
            }
            Check.due(type + " has twenty fields at most", own <= 20 ? 1 : 0, 1);
        }
    }

    private static void text() throws IOException {
        String text = Files.readString(Path.of("src/main/java/HandleMirror.java"));
        String code = text.replaceAll("(?s)/\\*.*?\\*/", "").replaceAll("//[^\n]*", "");
        String[] words = {"throw", "throws", "try", "catch", "synchronized", "assert", "package", "var", "float", "double",
            "hashCode", "equals", "toString", "record", "protected", "volatile", "transient", "native", "System", "Object"};
        for (String word : words) {
            Check.due("the word " + word, code.matches("(?s).*\\b" + word + "\\b.*") ? 1 : 0, 0);
        }
        String[] marks = {"->", "::", "@", "\"", ".class", "Exact"};
        for (String mark : marks) Check.due("the mark " + mark, code.contains(mark) ? 1 : 0, 0);
        String imports = code.replaceAll("(?s)public final class.*", "").trim();
        Check.due("imports: " + imports, imports.equals("import java.util.ArrayList;") ? 1 : 0, 1);
        for (int i = 0; i < text.length(); i++) {
            if (text.charAt(i) > 126) Check.due("a character", text.charAt(i), 0);
        }
        longMethods(code);
    }

    private static void longMethods(String code) {
        int start = 0;
        String[] lines = code.split("\n");
        for (int i = 0; i < lines.length; i++) {
            if (lines[i].matches("( {4}| {8})\\w.*\\) \\{")) start = i;
            if (lines[i].matches("( {4}| {8})\\}")) Check.due("a method at line " + start, i - start <= 60 || start == 0 ? 1 : 0, 1);
            if (lines[i].matches(" {4}\\}")) start = 0;
        }
    }
}
