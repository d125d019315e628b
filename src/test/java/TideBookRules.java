import java.io.IOException;
import java.lang.reflect.Constructor;
import java.lang.reflect.Executable;
import java.lang.reflect.Field;
import java.lang.reflect.Method;
import java.lang.reflect.Modifier;
import java.nio.file.Files;
import java.nio.file.Path;
import java.util.ArrayList;
import java.util.Arrays;
import java.util.HashSet;
import java.util.List;
import java.util.Set;
import java.util.TreeSet;
import java.util.regex.Matcher;
import java.util.regex.Pattern;

// The document's face and those rules of LANGUAGE.md that show in the class or in its text.
// It is run in the project's folder, where it finds the text.
public final class TideBookRules {
    private static final String[] FACE = {
        "int set(int,int,int,int)", "int special(int,int,int)", "int constant(int,int,int)", "int constantSpecial(int,int)",
        "int formula(int,int,int,int,int)", "int input(int)", "int width(int,boolean)", "int back()", "int alarm(int,int,int)",
        "int ring()", "double reading(int,int)", "boolean isBlank(int,int)", "boolean isMinus(int,int)", "long bits(int,int)",
        "int compared(int,int,int)", "int alarmed(int,int)", "int told(int,int)"};
    private static final String[] NOT_IN_TEXT = {
        "->", "::", "\\bDouble\\b", "\\bFloat\\b", "\\bNaN\\b", "\\bimport\\b", "\\bpackage\\b", "\\btry\\b", "\\bcatch\\b", "\\bfinally\\b",
        "\\bthrow\\b", "\\bthrows\\b", "\\bsynchronized\\b", "\\bassert\\b", "\\bvar\\b", "\\bMAX_VALUE\\b", "\\bMIN_VALUE\\b", "Exact\\b", "\\bstatic \\{"};
    private static final Set<String> LIBRARY = Set.of("System.arraycopy", "Integer.bitCount");

    private static int wrong = 0;

    private static void due(String what, boolean holds) {
        if (!holds) {
            wrong++;
            System.out.println("not so: " + what);
        }
    }

    private static String signature(Method method) {
        List<String> types = new ArrayList<>();
        for (Class<?> type : method.getParameterTypes()) {
            types.add(type.getName());
        }
        return method.getReturnType().getName() + " " + method.getName() + "(" + String.join(",", types) + ")";
    }

    private static void dueFace() {
        Set<String> publics = new TreeSet<>();
        for (Method method : TideBook.class.getDeclaredMethods()) {
            if (Modifier.isPublic(method.getModifiers())) {
                publics.add(signature(method));
            } else {
                due(method + " is private", Modifier.isPrivate(method.getModifiers()) || method.isSynthetic());
            }
        }
        due("the public methods are the face's: " + publics, publics.equals(new TreeSet<>(Arrays.asList(FACE))));
        due("the class is public and final", (TideBook.class.getModifiers() & (Modifier.PUBLIC | Modifier.FINAL)) == (Modifier.PUBLIC | Modifier.FINAL));
        Constructor<?>[] constructors = TideBook.class.getDeclaredConstructors();
        due("one public constructor without parameters", constructors.length == 1 && Modifier.isPublic(constructors[0].getModifiers()) && constructors[0].getParameterCount() == 0);
        for (Field field : TideBook.class.getDeclaredFields()) {
            due(field + " is private", Modifier.isPrivate(field.getModifiers()));
        }
    }

    private static Set<String> faceNames() {
        Set<String> names = new HashSet<>();
        for (String call : FACE) {
            names.add(call.substring(call.indexOf(' ') + 1, call.indexOf('(')));
        }
        return names;
    }

    private static void dueOfClass(Class<?> type) {
        int fields = 0;
        for (Field field : type.getDeclaredFields()) {
            boolean fixed = Modifier.isStatic(field.getModifiers());
            due(field + " is a constant", !fixed || Modifier.isFinal(field.getModifiers()) && Set.of(int.class, long.class, boolean.class, char.class, String.class).contains(field.getType()));
            fields += fixed ? 0 : 1;
        }
        due(type + " has at most twenty fields", fields <= 20);
        List<Executable> all = new ArrayList<>(Arrays.asList(type.getDeclaredMethods()));
        all.addAll(Arrays.asList(type.getDeclaredConstructors()));
        for (Executable one : all) {
            due(one + " takes at most seven parameters", one.getParameterCount() <= 7);
            due(one + " does not bear a name of the face", Modifier.isPublic(one.getModifiers()) || !faceNames().contains(one.getName()));
        }
    }

    private static void dueClasses() {
        Class<?>[] inside = TideBook.class.getDeclaredClasses();
        due("at most twelve classes", inside.length < 12);
        dueOfClass(TideBook.class);
        for (Class<?> type : inside) {
            due(type + " is static and not public", Modifier.isStatic(type.getModifiers()) && (type.getModifiers() & (Modifier.PUBLIC | Modifier.PROTECTED)) == 0);
            dueOfClass(type);
        }
    }

    private static void dueText() throws IOException {
        String text = Files.readString(Path.of("src/main/java/TideBook.java"));
        String code = text.replaceAll("(?s)/\\*.*?\\*/", "").replaceAll("//[^\n]*", "");
        for (String word : NOT_IN_TEXT) {
            due("no " + word + " in the text", !Pattern.compile(word).matcher(code).find());
        }
        Matcher library = Pattern.compile("\\b(System|Integer|Long|Math|Arrays|String|List)\\.\\w+").matcher(code);
        while (library.find()) {
            due("only what is used of the library: " + library.group(), LIBRARY.contains(library.group()));
        }
        due("only characters 0 to 127", text.chars().allMatch(c -> c < 128));
        Matcher method = Pattern.compile("(?m)^( {4}| {8})\\w[^;={\n]*\\([^;={\n]*\\) \\{\n(?s:.*?)^\\1\\}").matcher(code);
        int methods = 0;
        while (method.find()) {
            methods++;
            due("a method of at most sixty lines: " + method.group().split("\n")[0], method.group().lines().count() <= 60);
        }
        due("methods were found in the text", methods > 40);
    }

    public static void main(String[] args) throws IOException {
        dueFace();
        dueClasses();
        dueText();
        System.out.println(wrong == 0 ? "all rules are kept" : wrong + " rules are not kept");
        if (wrong != 0) {
            System.exit(1);
        }
    }
}
