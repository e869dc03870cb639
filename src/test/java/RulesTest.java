import java.io.IOException;
import java.lang.reflect.Constructor;
import java.lang.reflect.Field;
import java.lang.reflect.Method;
import java.lang.reflect.Modifier;
import java.nio.file.Files;
import java.nio.file.Path;
import java.util.ArrayList;
import java.util.Arrays;
import java.util.List;
import java.util.TreeSet;
import java.util.regex.Pattern;

/** The document's face, and what of LANGUAGE.md can be seen from outside and in the source. */
public final class RulesTest {
    private static final Check CHECK = new Check("RulesTest");

    private static final String[] FACE = {
        "int type(int)", "int wipe()", "int undo()", "int fault()", "int cell(int,int)", "int set(int,int)",
        "int thing(int,int)", "int back()", "int read(int)", "int at(int,int)", "int rests(int,int)",
        "int longest()", "int meet(int,int)", "int way(int,int)", "int next(int,int)", "int race(int,int,int)",
        "int reach(int)", "int wet(int)", "int plug(int,int)", "int plumb(int,int)", "int forget()", "int where()",
        "int hang()", "int from(int,int,int)", "int joined()", "int like(int)", "long flood(int,int,int)",
        "int kicks(int,int,int)", "int sheet(int,int,int)", "int lose(int)", "int put(int,int,int,int)",
        "int get(int,int,int)", "int copy(int,int,int,int,int)", "int write(int,int)", "int count(int)",
        "long digest()"};

    private static final String[] FORBIDDEN = {
        "\\bthrows?\\b", "\\btry\\b", "\\bcatch\\b", "\\bfinally\\b", "\\bsynchronized\\b", "\\bassert\\b",
        "\\bimport\\b", "\\bpackage\\b", "\\bprotected\\b", "\\bSystem\\.(?!arraycopy)", "Exact\\b", "->", "::",
        "\\bequals\\b", "\\bhashCode\\b", "\\btoString\\b", "\\bdouble\\b", "\\bfloat\\b", "\\bwhile \\(true"};

    private static final Pattern METHOD =
            Pattern.compile(" {4,8}(?!if|for|while|switch|return|private static final class)[\\w\\[\\] ]+\\(.*\\) \\{");

    public static void main(String[] args) throws IOException {
        constants();
        methods();
        classesInside();
        source();
        CHECK.end();
    }

    private static void constants() {
        CHECK.due("NONE", MineUpside.NONE, -1);
        CHECK.due("BAD", MineUpside.BAD, -2);
        CHECK.due("NOT", MineUpside.NOT, -3);
        CHECK.due("FULL", MineUpside.FULL, -4);
        List<String> names = Arrays.asList("NONE", "BAD", "NOT", "FULL");
        for (Field field : MineUpside.class.getDeclaredFields()) {
            int modifiers = field.getModifiers();
            boolean open = Modifier.isPublic(modifiers) && names.contains(field.getName());
            CHECK.holds(field.getName() + " is private or of the face", open != Modifier.isPrivate(modifiers));
        }
    }

    private static String told(Method method) {
        StringBuilder told = new StringBuilder(method.getReturnType() + " " + method.getName() + "(");
        for (Class<?> type : method.getParameterTypes()) {
            told.append(told.charAt(told.length() - 1) == '(' ? "" : ",").append(type);
        }
        return told.append(")").toString();
    }

    private static void methods() {
        CHECK.holds("final", Modifier.isFinal(MineUpside.class.getModifiers()));
        Constructor<?>[] constructors = MineUpside.class.getDeclaredConstructors();
        CHECK.due("constructors", constructors.length, 1);
        CHECK.due("its parameters", constructors[0].getParameterCount(), 0);
        TreeSet<String> face = new TreeSet<>();
        List<String> hidden = new ArrayList<>();
        for (Method method : MineUpside.class.getDeclaredMethods()) {
            CHECK.holds(method + " has at most seven parameters", method.getParameterCount() <= 7);
            if (Modifier.isPrivate(method.getModifiers())) {
                hidden.add(method.getName());
            } else {
                CHECK.holds(method + " is public", Modifier.isPublic(method.getModifiers()));
                face.add(told(method));
            }
        }
        CHECK.holds("the face is " + face, face.equals(new TreeSet<>(Arrays.asList(FACE))));
        for (String told : face) {
            String name = told.substring(told.indexOf(' ') + 1, told.indexOf('('));
            CHECK.holds("no private method is called " + name, !hidden.contains(name));
        }
    }

    private static void classesInside() {
        Class<?>[] inside = MineUpside.class.getDeclaredClasses();
        CHECK.holds("at most twelve classes", inside.length < 12);
        for (Class<?> nested : inside) {
            CHECK.holds(nested + " is static", Modifier.isStatic(nested.getModifiers()));
            CHECK.holds(nested + " is not public", !Modifier.isPublic(nested.getModifiers()));
            CHECK.holds(nested + " has few fields", nested.getDeclaredFields().length <= 20);
        }
    }

    private static void source() throws IOException {
        String all = Files.readString(Path.of("src/main/java/MineUpside.java"));
        String code = all.replaceAll("(?s)/\\*.*?\\*/", "").replaceAll("//[^\n]*", "");
        for (String word : FORBIDDEN) {
            CHECK.holds("no " + word, !Pattern.compile(word).matcher(code).find());
        }
        methodLengths(code.split("\n"));
    }

    /** A method ends with the brace that stands as far in as its first line. */
    private static void methodLengths(String[] lines) {
        int methods = 0;
        for (int i = 0; i < lines.length; i++) {
            if (!METHOD.matcher(lines[i]).matches()) {
                continue;
            }
            methods++;
            String end = lines[i].replaceAll("\\S.*", "") + "}";
            int j = i;
            while (j < lines.length && !lines[j].equals(end)) {
                j++;
            }
            CHECK.holds(lines[i].trim() + " has at most sixty lines", j - i < 60);
        }
        CHECK.holds("there are methods", methods > FACE.length);
    }
}
