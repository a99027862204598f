import java.io.IOException;
import java.lang.reflect.Field;
import java.lang.reflect.Method;
import java.lang.reflect.Modifier;
import java.nio.file.Files;
import java.nio.file.Path;
import java.util.ArrayList;
import java.util.Arrays;
import java.util.List;
import java.util.Set;
import java.util.TreeSet;
import java.util.regex.Matcher;
import java.util.regex.Pattern;

/** The public face, and those rules of LANGUAGE.md that can be seen from the classes or the source. */
public final class LanguageTest {
    private static final Path SOURCE = Path.of("src/main/java/FoldedBoard.java");
    private static final String[] FACE = {
        "int board(int,int)", "int hole(int)", "int man(int,int,int,int)", "int put(int,int)", "int cell(int,int)",
        "int pile(int,int,int)", "int strength(int)", "int ruler(int,int)", "int where(int)", "int step(int,int,int,int)",
        "int fold(int,int,int)", "int state(int)", "int undo()", "int folds(int)", "int leaves(int,int)", "int habit()",
        "int safe()", "int small(int)", "int reach(int,int,int)", "int wins(int)", "int best(int)", "int type(long,int)",
        "int clear()", "int fault()", "int judge()", "int image(int)", "int from(int)", "int status(int)", "int count(int)",
        "long digest()"};

    private static int wrong;

    public static void main(String[] args) throws IOException {
        List<Class<?>> classes = new ArrayList<>(List.of(FoldedBoard.class));
        classes.addAll(Arrays.asList(FoldedBoard.class.getDeclaredClasses()));
        require(classes.size() <= 12, "at most twelve classes");
        face();
        for (Class<?> c : classes) {
            members(c);
        }
        source(Files.readString(SOURCE));
        System.out.println(wrong == 0 ? "the rules are kept" : wrong + " rules are broken");
        System.exit(wrong == 0 ? 0 : 1);
    }

    private static void require(boolean holds, String what) {
        if (!holds) {
            wrong++;
            System.out.println("not so: " + what);
        }
    }

    private static void face() {
        Class<?> c = FoldedBoard.class;
        require(Modifier.isPublic(c.getModifiers()) && Modifier.isFinal(c.getModifiers()), "public and final");
        require(c.getDeclaredConstructors().length == 1 && c.getConstructors().length == 1
            && c.getConstructors()[0].getParameterCount() == 0, "one public constructor");
        Set<String> found = new TreeSet<>();
        for (Method m : c.getDeclaredMethods()) {
            if (Modifier.isPublic(m.getModifiers())) {
                found.add(m.toString().replace("public ", "").replace("FoldedBoard.", ""));
            }
        }
        require(found.equals(new TreeSet<>(Arrays.asList(FACE))), "the face's methods: " + found);
        Set<String> constants = new TreeSet<>();
        for (Field f : c.getFields()) {
            constants.add(f.getName());
        }
        require(constants.equals(Set.of("NONE", "BAD", "NO", "FULL")), "the face's constants: " + constants);
    }

    private static Set<String> faceNames() {
        Set<String> names = new TreeSet<>();
        for (String f : FACE) {
            names.add(f.substring(f.indexOf(' ') + 1, f.indexOf('(')));
        }
        return names;
    }

    private static void members(Class<?> c) {
        boolean outer = c == FoldedBoard.class;
        require(outer || Modifier.isStatic(c.getModifiers()) && Modifier.isPrivate(c.getModifiers()), c + " is private and static");
        int fields = 0;
        for (Field f : c.getDeclaredFields()) {
            int m = f.getModifiers();
            require(Modifier.isPrivate(m) || outer && Modifier.isPublic(m) || f.isSynthetic(), f + " is private");
            require(!Modifier.isStatic(m) || Modifier.isFinal(m), f + " is final");
            fields += Modifier.isStatic(m) ? 0 : 1;
        }
        require(fields <= 20, c + " has at most twenty fields");
        for (Method m : c.getDeclaredMethods()) {
            require(m.getParameterCount() <= 7, m + " takes at most seven parameters");
            boolean open = Modifier.isPublic(m.getModifiers());
            require(!outer || open || Modifier.isPrivate(m.getModifiers()), m + " is public or private");
            require(outer && open || !faceNames().contains(m.getName()), m + " bears a name of the face");
        }
    }

    private static void source(String text) {
        String code = text.replaceAll("(?s)/\\*.*?\\*/", "").replaceAll("//[^\n]*", "");
        Matcher word = Pattern.compile("\\b(throw|throws|try|catch|synchronized|assert|import|package|instanceof|equals|hashCode|toString"
            + "|volatile|protected|native|Math\\.\\w+Exact|record|System\\.(?!arraycopy)\\w+)\\b|->|::").matcher(code);
        while (word.find()) {
            require(false, "the source goes without " + word.group());
        }
        for (char sign : text.toCharArray()) {
            require(sign < 128, "the source's signs are below 128");
        }
        // what a call would make is counted for a whole run: rows are made with the object alone
        for (String line : code.split("\n")) {
            boolean withTheObject = line.matches(" +private final .* = new .*") || line.matches(" +image\\w+\\[i\\] = new .*");
            require(!line.contains("new ") || withTheObject, "made with the object: " + line.strip());
        }
        int length = 0;
        for (String line : text.split("\n")) {
            boolean begins = line.matches("( {4}| {8})(?! )[^=;]*\\(.*\\{");
            length = begins ? 0 : length + 1;
            require(!line.matches("( {4}| {8})\\}") || length <= 60, "methods stay short: the one that ends as " + line);
            if (line.matches("( {4}| {8})\\}")) {
                length = 0;
            }
        }
    }
}
