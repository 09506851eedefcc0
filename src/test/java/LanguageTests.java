import java.lang.reflect.Constructor;
import java.lang.reflect.Field;
import java.lang.reflect.Method;
import java.lang.reflect.Modifier;
import java.nio.file.Files;
import java.nio.file.Path;
import java.util.Arrays;
import java.util.Set;
import java.util.TreeSet;
import java.util.regex.Matcher;
import java.util.regex.Pattern;

/** The face of the class as the document has it, and those rules of LANGUAGE.md that show. */
final class LanguageTests {
    private static final Path SOURCE = Path.of("src/main/java/OrderPatterns.java");

    private static final String[] FACE = {
        "int length(int)", "int holds(int,int)", "int where(int,int)", "int times(int,int)",
        "int turned(int,int)", "int least(int)", "int sum(int,int,boolean)",
        "int put(int,int,int)", "int without(int,int)", "int spans(int)", "int parts(int,int)",
        "int simple(int)", "int shape(int,int)", "int alike(int)", "int make(int,int,int)",
        "int add(int,int)", "int thin(int)", "int look(int,int)", "int in(int,int)",
        "int count(int,int)", "int ranked(int,int,int)", "int rank(int,int)",
        "int next(int,int)", "int outer(int,int)", "int kids(int,int)", "int same(int,int)",
        "int like(int,int)", "int turnedClass(int,int,int)", "int mean(int,int,int)",
        "int all(int,int,int)", "int most(int,int)", "int packed(int,int)",
        "int merges(int,int,int)", "int rows(int,boolean)", "int keep(int,int,int,int)",
        "int row(int,int,int)", "long element(int,int)", "int copy(int,int,int,int,int)",
        "int read(int)", "int weight(int)", "int toss(int)"};

    private static final String[] BANNED = {"->", "::", "\\bfinally\\b", "\\bsynchronized\\b",
        "\\bassert\\b", "\\bprotected\\b", "\\bpackage\\b", "\\bvar\\b", "\\bException\\b",
        "\\bThrowable\\b", "\\bRuntimeException\\b", "\\bError\\b", "Exact\\(",
        "ArrayIndexOutOfBounds", "NullPointer", "ArithmeticException", "ClassCast",
        "NegativeArraySize", "ArrayStore", "getMessage", "\\bSystem\\.(?!arraycopy)",
        "\\bstatic\\s*\\{", "\\bdouble\\b", "\\bfloat\\b", "@", "\\bswitch\\b",
        "\\bArrays\\.(?!fill\\(|copyOf\\(|copyOfRange\\()", "\\bMath\\.(?!min\\(|max\\(|abs\\()",
        "\\bInteger\\.(?!bitCount\\(|highestOneBit\\(|numberOfLeadingZeros\\()", "\\bLong\\.",
        "\\bthrow (?!new Illegal(Argument|State)Exception\\(\"|new UnsupportedOp)", "\"\\s*\\+",
        "\\+\\s*\""};
    private static final int MOST_PARAMETERS = 7;
    private static final int MOST_FIELDS = 20;

    private final Checks checks;

    LanguageTests(Checks checks) {
        this.checks = checks;
    }

    void run() throws Exception {
        face();
        insideClasses();
        sizes(OrderPatterns.class);
        source();
    }

    private void face() {
        Class<?> type = OrderPatterns.class;
        checks.due("modifiers", type.getModifiers(), Modifier.PUBLIC | Modifier.FINAL);
        Set<String> shown = new TreeSet<>();
        Set<String> hidden = new TreeSet<>();
        for (Method method : type.getDeclaredMethods()) {
            if (method.isSynthetic()) {
                continue;
            }
            String types = Arrays.toString(Arrays.stream(method.getParameterTypes())
                    .map(Class::getName).toArray()).replaceAll("[\\[\\] ]", "");
            if (Modifier.isPublic(method.getModifiers())) {
                shown.add(method.getReturnType() + " " + method.getName() + "(" + types + ")");
                checks.yes(method + " throws as told", method.getExceptionTypes().length
                        == (method.getName().equals("element") ? 2 : 0));
            } else {
                hidden.add(method.getName());
                checks.yes(method + " is private", Modifier.isPrivate(method.getModifiers()));
            }
        }
        checks.yes("the face is " + shown, shown.equals(new TreeSet<>(Arrays.asList(FACE))));
        checks.yes("private ones bear other names", names().stream().noneMatch(hidden::contains));
        for (Field field : type.getDeclaredFields()) {
            checks.yes(field + " is private", Modifier.isPrivate(field.getModifiers()));
        }
        Constructor<?>[] made = type.getDeclaredConstructors();
        checks.yes("one constructor", made.length == 1 && made[0].getParameterCount() == 0);
    }

    private static Set<String> names() {
        Set<String> found = new TreeSet<>();
        for (String method : FACE) {
            found.add(method.substring(method.indexOf(' ') + 1, method.indexOf('(')));
        }
        return found;
    }

    private void insideClasses() {
        Class<?>[] inside = OrderPatterns.class.getDeclaredClasses();
        checks.yes("at most twelve classes: " + inside.length, inside.length < 12);
        for (Class<?> type : inside) {
            checks.yes(type + " is static", Modifier.isStatic(type.getModifiers()));
            sizes(type);
            for (Method method : type.getDeclaredMethods()) {
                boolean other = method.isSynthetic() || !names().contains(method.getName());
                checks.yes(method + " bears another name than the face's", other);
            }
        }
    }

    /** No state outside objects, few fields, few parameters. */
    private void sizes(Class<?> type) {
        int own = 0;
        for (Field field : type.getDeclaredFields()) {
            boolean isStatic = Modifier.isStatic(field.getModifiers());
            checks.yes(field + " is final", !isStatic || Modifier.isFinal(field.getModifiers()));
            own += isStatic ? 0 : 1;
        }
        checks.yes(type + " has " + own + " fields", own <= MOST_FIELDS);
        for (Method method : type.getDeclaredMethods()) {
            checks.yes(method + " takes few", method.getParameterCount() <= MOST_PARAMETERS);
        }
    }

    private void source() throws Exception {
        String text = Files.readString(SOURCE);
        String code = text.replaceAll("(?s)/\\*.*?\\*/", "").replaceAll("//[^\n]*", "");
        for (String banned : BANNED) {
            Matcher matcher = Pattern.compile(banned).matcher(code);
            checks.yes("the source has no " + banned, !matcher.find());
        }
        checks.yes("one import", code.split("\nimport ").length <= 2);
        checks.yes("only signs 1 to 127", text.chars().allMatch(sign -> sign < 128));
        int begins = 0;
        String[] lines = text.split("\n");
        for (int i = 0; i < lines.length; i++) {
            checks.yes("line " + (i + 1) + " is short", lines[i].length() <= 100);
            if (lines[i].matches("( {4}| {8})[a-zA-Z].*\\) (throws .*)?\\{")) {
                begins = i;
            }
            if (lines[i].matches("( {4}| {8})\\}")) {
                checks.yes("the method at line " + begins + " is short", i - begins <= 60);
            }
        }
    }
}
