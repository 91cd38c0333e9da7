import java.io.IOException;
import java.lang.reflect.Constructor;
import java.lang.reflect.Field;
import java.lang.reflect.Method;
import java.lang.reflect.Modifier;
import java.nio.file.Files;
import java.nio.file.Path;
import java.util.Arrays;
import java.util.List;
import java.util.regex.Matcher;
import java.util.regex.Pattern;
import java.util.stream.Collectors;

/** The public face of the class, and some of the rules of LANGUAGE.md that can be looked for. */
public final class LanguageTest {
    private static final String FACE = "batchOf(2) begin(3) blend(2) cleaning(3) clearText(0)"
            + " count(1) discard(1) end(1) fault(1) line(2) lineOf(2) move(2) pass(1) play(0)"
            + " quickest(2) recipe(1) set(2) soonest(1) stage(5) stageOf(3) targets(1) type(1)"
            + " undo(0) urgent(1) vessel(2) vesselOf(2)";
    private static final String CONSTANTS =
            "INVALID_ARGUMENT LIMIT_REACHED NOT_FOUND NOT_POSSIBLE";
    private static final String FORBIDDEN = "\\b(throw|throws|try|catch|synchronized|assert|import"
            + "|package|protected|native|volatile|transient|var|record|Exact)\\b|->|::|Exact\\(";

    private static final String[][] HEADINGS = {
        {"recipes, vessels, lines", "recipe", "stage", "vessel", "line", "cleaning", "stageOf"},
        {"batches", "begin", "move", "end", "discard", "blend", "pass", "set"},
        {"what there is", "batchOf", "vesselOf", "lineOf", "count"},
        {"what could be", "targets", "quickest", "soonest", "urgent", "undo"},
        {"texts", "type", "clearText", "fault", "play"}};

    public static void main(String[] args) throws IOException {
        face();
        names();
        words();
        headings();
        Due.close();
    }

    private static void face() {
        Class<?> face = BatchCellars.class;
        int bits = face.getModifiers();
        Due.due("public and final", Modifier.isPublic(bits) && Modifier.isFinal(bits) ? 1 : 0, 1);
        List<String> methods = Arrays.stream(face.getDeclaredMethods())
                .filter(m -> !Modifier.isPrivate(m.getModifiers()))
                .map(LanguageTest::told).sorted().collect(Collectors.toList());
        equal("methods", String.join(" ", methods), FACE);
        List<String> fields = Arrays.stream(face.getDeclaredFields())
                .filter(f -> !Modifier.isPrivate(f.getModifiers()))
                .map(Field::getName).sorted().collect(Collectors.toList());
        equal("constants", String.join(" ", fields), CONSTANTS);
        Constructor<?>[] makers = face.getDeclaredConstructors();
        Due.due("constructors", makers.length, 1);
        Due.due("public one", makers[0].getModifiers() & Modifier.PUBLIC, Modifier.PUBLIC);
        Due.due("without arguments", makers[0].getParameterCount(), 0);
    }

    private static String told(Method method) {
        boolean plain = Modifier.isPublic(method.getModifiers())
                && !Modifier.isStatic(method.getModifiers()) && method.getReturnType() == int.class
                && Arrays.stream(method.getParameterTypes()).allMatch(type -> type == int.class);
        return method.getName() + (plain ? "(" + method.getParameterCount() + ")" : "?");
    }

    private static void equal(String what, String got, String want) {
        if (!got.equals(want)) {
            System.out.println(what + ": " + got);
        }
        Due.due(what + " of the face", got.equals(want) ? 1 : 0, 1);
    }

    private static void names() {
        Class<?>[] inside = BatchCellars.class.getDeclaredClasses();
        Due.due("at most twelve classes", inside.length < 12 ? 1 : 0, 1);
        for (Class<?> each : inside) {
            Due.due(each + " is static", Modifier.isStatic(each.getModifiers()) ? 1 : 0, 1);
            int own = 0;
            for (Field field : each.getDeclaredFields()) {
                own += Modifier.isStatic(field.getModifiers()) ? 0 : 1;
            }
            Due.due(each + " has at most twenty fields", own <= 20 ? 1 : 0, 1);
            for (Method method : each.getDeclaredMethods()) {
                boolean taken = (" " + FACE).contains(" " + method.getName() + "(");
                Due.due(method + " bears a name of the face", taken ? 1 : 0, 0);
                Due.due(method + " has many arguments", method.getParameterCount() > 7 ? 1 : 0, 0);
            }
        }
    }

    private static void words() throws IOException {
        Path source = Path.of("src/main/java/BatchCellars.java");
        String text = Files.readString(source).replaceAll("(?s)/\\*.*?\\*/", "")
                .replaceAll("//[^\n]*", "");
        Matcher matcher = Pattern.compile(FORBIDDEN).matcher(text);
        int found = 0;
        while (matcher.find()) {
            System.out.println("a forbidden word: " + matcher.group());
            found++;
        }
        Due.due("forbidden words", found, 0);
        boolean plain = text.chars().allMatch(sign -> sign == '\n' || sign >= 32 && sign < 127);
        Due.due("plain signs", plain ? 1 : 0, 1);
    }

    /** The calls stand in the order of the document, under its headings. */
    private static void headings() throws IOException {
        String text = Files.readString(Path.of("src/main/java/BatchCellars.java"));
        int place = 0;
        for (String[] heading : HEADINGS) {
            for (int i = 0; i < heading.length; i++) {
                String line = i == 0 ? "    // ---- " + heading[0] + "\n"
                        : "    public int " + heading[i] + "(";
                int found = text.indexOf(line, place);
                Due.due(line.strip() + " in its order", found > 0 ? 1 : 0, 1);
                place = Math.max(place, found);
            }
        }
    }
}
