import java.io.IOException;
import java.lang.reflect.Constructor;
import java.lang.reflect.Field;
import java.lang.reflect.Method;
import java.lang.reflect.Modifier;
import java.nio.file.Files;
import java.nio.file.Path;
import java.util.ArrayList;
import java.util.Arrays;
import java.util.HashSet;
import java.util.List;
import java.util.Set;
import java.util.TreeSet;
import java.util.regex.Matcher;
import java.util.regex.Pattern;

/** The rules of LANGUAGE.md and the document's face, as far as they can be seen. */
public final class RulesTest {
    private static final String[] FACE = {
        "int feed(int,int,int,int,int)", "int end(int)", "int town()", "int fault(int)", "int names(int)",
        "int strayed(int)", "int where(int,int)", "int within(int,int)", "int depth(int)", "int lies(int,int)",
        "int leads(int,int)", "int opens(int,int,int,int)", "int keys(int,int,int)", "int soonest(int,int,int)",
        "int gates(int,int,int)", "int way(int,int,int,int)", "int reach(int,int)", "int latest(int,int)",
        "int need(int,int,int,int)", "int fewest(int,int,int,int,int)", "int every(int)",
        "int ways(int,int,int,int)", "int out(int,int,int,int)", "int alone(int,int,int,int)",
        "int both(int,int,int,int)", "int friend(int,int,int,int)", "int teach(int,int,int,int)",
        "int host(int,int,int,int,int)", "int three(int,int,int,int,int)", "int vital(int,int,int)",
        "long tell(int,int,int,int,int)", "int tells(int,int,int,int)", "int until(int,int,int,int)",
        "int empty(int)", "int hollow(int)", "int keeper(int)", "int hear(int,int,int,boolean)", "int forget()",
        "int think(int,int,int)", "int likely(int,int,int,int)", "long odds(int,int,int,int)",
        "int best(int,int,int,int)", "long sure(int,int,int,int)", "long list(int,int,int,int)",
        "long price(int,int,int,int)", "int begin(int,int,int,int)", "int judge(int)", "int ends(int,int)",
        "int draw(int)", "int days(int,int,int,int,int)", "int count(int)", "int keep(int)", "int back(int)",
        "int row(int,int,int)", "int write(int,int,long)", "int paste(int,int,int,int,int)"};
    private static final String[] BANNED = {"throw", "throws", "try", "catch", "finally", "synchronized", "assert",
        "import static", "volatile", "native", "Object", "Exception", "Math.addExact", "System.out", "float", "double"};
    private static final String[] LIBRARY = {"Arrays.fill", "Arrays.copyOf", "Arrays.copyOfRange", "System.arraycopy",
        "Math.max", "Math.min", "Integer.bitCount", "Integer.numberOfTrailingZeros"};

    private RulesTest() {
    }

    public static void main(String[] args) throws IOException {
        String source = Files.readString(Path.of("src/main/java/NameGate.java"));
        face();
        members();
        words(plain(source));
        lengths(source);
        Check.finish();
    }

    private static void face() {
        Check.part("the face");
        Set<String> found = new TreeSet<>();
        for (Method method : NameGate.class.getDeclaredMethods()) {
            if (!Modifier.isPrivate(method.getModifiers())) {
                List<String> types = new ArrayList<>();
                for (Class<?> type : method.getParameterTypes()) {
                    types.add(type.getName());
                }
                found.add(method.getReturnType() + " " + method.getName() + "(" + String.join(",", types) + ")");
            }
        }
        Set<String> wanted = new TreeSet<>(Arrays.asList(FACE));
        Check.due("methods " + found, found.equals(wanted) ? 1 : 0, 1);
        Check.due("final", Modifier.isFinal(NameGate.class.getModifiers()) ? 1 : 0, 1);
        Constructor<?>[] made = NameGate.class.getDeclaredConstructors();
        Check.due("constructors", made.length, 1);
        Check.due("of none", made[0].getParameterCount(), 0);
        for (Field field : NameGate.class.getDeclaredFields()) {
            boolean open = field.getName().equals("NONE");
            Check.due("field " + field.getName(), Modifier.isPrivate(field.getModifiers()) ? 0 : 1, open ? 1 : 0);
        }
    }

    private static void members() {
        Check.part("classes inside");
        Set<String> open = new HashSet<>();
        for (Method method : NameGate.class.getDeclaredMethods()) {
            if (Modifier.isPublic(method.getModifiers())) {
                open.add(method.getName());
            }
        }
        List<Class<?>> all = new ArrayList<>(Arrays.asList(NameGate.class.getDeclaredClasses()));
        Check.due("how many", all.size() + 1 <= 12 ? 1 : 0, 1);
        all.add(NameGate.class);
        for (Class<?> type : all) {
            int fields = 0;
            for (Field field : type.getDeclaredFields()) {
                boolean fixed = Modifier.isStatic(field.getModifiers());
                fields += fixed ? 0 : 1;
                Check.due("static " + field, fixed && !Modifier.isFinal(field.getModifiers()) ? 1 : 0, 0);
                Check.due("type of " + field, fixed && !isConstant(field.getType()) ? 1 : 0, 0);
            }
            Check.due("fields of " + type, fields <= 20 ? 1 : 0, 1);
            Check.due("static " + type, type == NameGate.class || Modifier.isStatic(type.getModifiers()) ? 1 : 0, 1);
            for (Method method : type.getDeclaredMethods()) {
                boolean own = type != NameGate.class || !Modifier.isPublic(method.getModifiers());
                Check.due("name of " + method, own && open.contains(method.getName()) ? 1 : 0, 0);
                Check.due("parameters of " + method, method.getParameterCount() <= 7 ? 1 : 0, 1);
            }
        }
    }

    private static boolean isConstant(Class<?> type) {
        return type == int.class || type == long.class || type == boolean.class || type == char.class
            || type == String.class || type == int[].class || type == long[].class || type == char[].class
            || type == byte[].class;
    }

    /** Without comments and texts. */
    private static String plain(String source) {
        return source.replaceAll("(?s)/\\*.*?\\*/", " ").replaceAll("//[^\n]*", " ")
            .replaceAll("\"[^\"\n]*\"", "\"\"").replaceAll("'[^'\n]*'", "' '");
    }

    private static void words(String source) {
        Check.part("words");
        for (String word : BANNED) {
            Check.due(word, Pattern.compile("\\b" + Pattern.quote(word) + "\\b").matcher(source).find() ? 1 : 0, 0);
        }
        Check.due("lambda", source.contains("->") || source.contains("::") ? 1 : 0, 0);
        Check.due("package", source.contains("package ") ? 1 : 0, 0);
        Check.due("joined texts", Pattern.compile("\"\"\\s*\\+|\\+\\s*\"\"").matcher(source).find() ? 1 : 0, 0);
        Check.due("endless", Pattern.compile("while \\(true\\)|for \\(;;").matcher(source).find() ? 1 : 0, 0);
        Matcher imports = Pattern.compile("(?m)^import (.*);").matcher(source);
        while (imports.find()) {
            Check.due("import " + imports.group(1), imports.group(1).equals("java.util.Arrays") ? 1 : 0, 1);
        }
        Matcher calls = Pattern.compile("\\b(Arrays|System|Math|Integer|Long)\\.\\w+").matcher(source);
        while (calls.find()) {
            boolean known = Arrays.asList(LIBRARY).contains(calls.group()) || calls.group().equals("Arrays.");
            Check.due(calls.group(), known || source.startsWith("import java.util." + calls.group()) ? 1 : 0, 1);
        }
        for (int i = 0; i < source.length(); i++) {
            if (source.charAt(i) > 127) {
                Check.due("sign at " + i, source.charAt(i), 0);
            }
        }
    }

    private static void lengths(String source) {
        Check.part("lengths");
        String[] lines = source.split("\n");
        int began = -1;
        int indent = 0;
        int methods = 0;
        for (int i = 0; i < lines.length; i++) {
            String line = lines[i];
            int blanks = line.length() - line.stripLeading().length();
            Check.due("line " + (i + 1), line.length() <= 120 ? 1 : 0, 1);
            if (began < 0 && line.endsWith(") {") && (blanks == 4 || blanks == 8)
                && !line.matches("\\s*(if|for|while|switch|} else).*")) {
                began = i;
                indent = blanks;
                methods++;
            } else if (began >= 0 && line.strip().equals("}") && blanks == indent) {
                Check.due("method at line " + (began + 1), i - began < 60 ? 1 : 0, 1);
                began = -1;
            }
        }
        Check.due("methods seen", methods > 100 ? 1 : 0, 1);
    }
}
