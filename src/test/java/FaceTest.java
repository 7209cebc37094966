import java.io.IOException;
import java.lang.reflect.Constructor;
import java.lang.reflect.Field;
import java.lang.reflect.Method;
import java.lang.reflect.Modifier;
import java.nio.charset.StandardCharsets;
import java.nio.file.Files;
import java.nio.file.Path;
import java.util.Arrays;
import java.util.Set;
import java.util.TreeSet;

/** The public face, and those rules of LANGUAGE.md that a program can look at. Its argument is the source file. */
public final class FaceTest {
    private static final Due DUE = new Due("face and rules");

    private static final String FACE = "record 3 share 2 kind 2 size 1 ask 3 box 2 got 0 put 4 lay 4 fill 5 move 5 torn 0 "
        + "sum 2 rate 2 like 4 compare 2 result 1 step 2 join 2 near 1 lag 2 vote 4 patch 1 turn 1 act 3 apply 2 log 4 "
        + "draw 4 keep 1 back 1 count 1";

    /** Words of the language and library that the rules leave out and this program has no need of. */
    private static final String[] LEFT_OUT = {"import ", "catch", "throw ", "finally", "synchronized", "assert ", "->", "::",
        "Float.", "Double.", "Object", "System.", "Exact", "Math.floor(", "Math.round", "package ", "Thread", "Random"};

    private static void constants() throws ReflectiveOperationException {
        DUE.begin("constants");
        String[] names = {"BAD", "STATE", "FULL", "NONE"};
        for (int i = 0; i < names.length; i++) {
            Field field = LoggerTwins.class.getField(names[i]);
            DUE.is(names[i], field.getInt(null), -1 - i);
            DUE.holds(names[i] + " is a static final int", field.getType() == int.class
                && Modifier.isStatic(field.getModifiers()) && Modifier.isFinal(field.getModifiers()));
        }
        for (Field field : LoggerTwins.class.getDeclaredFields()) {
            boolean known = Arrays.asList(names).contains(field.getName());
            DUE.holds(field.getName() + " is private or of the face", known || Modifier.isPrivate(field.getModifiers()));
            DUE.holds(field.getName() + " is final if static", !Modifier.isStatic(field.getModifiers())
                || Modifier.isFinal(field.getModifiers()) && field.getType() == int.class);
        }
    }

    private static Set<String> faceNames() {
        Set<String> names = new TreeSet<>();
        String[] words = FACE.split(" ");
        for (int i = 0; i < words.length; i += 2) names.add(words[i]);
        return names;
    }

    private static void methods() throws ReflectiveOperationException {
        DUE.begin("methods");
        DUE.is("modifiers of the class", LoggerTwins.class.getModifiers(), Modifier.PUBLIC | Modifier.FINAL);
        String[] words = FACE.split(" ");
        for (int i = 0; i < words.length; i += 2) {
            Class<?>[] types = new Class<?>[Integer.parseInt(words[i + 1])];
            Arrays.fill(types, int.class);
            Method method = LoggerTwins.class.getDeclaredMethod(words[i], types);
            DUE.is("modifiers of " + words[i], method.getModifiers(), Modifier.PUBLIC);
            DUE.holds(words[i] + " answers its type", method.getReturnType() == (words[i].equals("got") ? long.class : int.class));
        }
        Set<String> names = faceNames();
        int shown = 0;
        for (Method method : LoggerTwins.class.getDeclaredMethods()) {
            if (Modifier.isPublic(method.getModifiers())) shown++;
            else DUE.holds(method.getName() + " is private and has a name of its own",
                Modifier.isPrivate(method.getModifiers()) && !names.contains(method.getName()));
        }
        DUE.is("public methods", shown, names.size());
        Constructor<?>[] constructors = LoggerTwins.class.getDeclaredConstructors();
        DUE.is("constructors", constructors.length, 1);
        DUE.is("modifiers of the constructor", constructors[0].getModifiers(), Modifier.PUBLIC);
        DUE.is("parameters of the constructor", constructors[0].getParameterCount(), 0);
    }

    private static void classesInside() {
        DUE.begin("classes inside");
        Class<?>[] inside = LoggerTwins.class.getDeclaredClasses();
        DUE.holds("at most twelve classes", inside.length + 1 <= 12);
        Set<String> names = faceNames();
        for (Class<?> type : inside) {
            DUE.holds(type.getName() + " is static and not public", Modifier.isStatic(type.getModifiers())
                && !Modifier.isPublic(type.getModifiers()) && !Modifier.isProtected(type.getModifiers()));
            DUE.holds(type.getName() + " has at most twenty fields", type.getDeclaredFields().length <= 20);
            for (Method method : type.getDeclaredMethods()) {
                DUE.holds(method.getName() + " takes at most seven", method.getParameterCount() <= 7);
                DUE.holds(method.getName() + " is no name of the face", !names.contains(method.getName()));
            }
        }
    }

    private static void source(String file) throws IOException {
        DUE.begin("source");
        String text = Files.readString(Path.of(file), StandardCharsets.ISO_8859_1);
        DUE.holds("only signs from 1 to 127", text.chars().allMatch(c -> c >= 1 && c <= 127));
        String code = text.replaceAll("(?s)/\\*.*?\\*/", "").replaceAll("//[^\n]*", "");
        for (String word : LEFT_OUT) DUE.holds("no " + word, !code.contains(word));
        int begun = 0;
        int line = 0;
        for (String row : code.split("\n")) {
            line++;
            if (row.matches(" {4,8}[a-zA-Z].*\\) \\{")) begun = line;
            if (row.matches(" {4,8}\\}")) DUE.holds("a method of at most sixty lines ends at " + line, line - begun < 60);
        }
    }

    public static void main(String[] args) throws ReflectiveOperationException, IOException {
        constants();
        methods();
        classesInside();
        source(args[0]);
        DUE.end();
    }
}
