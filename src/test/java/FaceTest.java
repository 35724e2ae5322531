import java.io.IOException;
import java.lang.reflect.Constructor;
import java.lang.reflect.Field;
import java.lang.reflect.Method;
import java.lang.reflect.Modifier;
import java.nio.charset.StandardCharsets;
import java.nio.file.Files;
import java.nio.file.Path;
import java.util.ArrayList;
import java.util.Arrays;
import java.util.List;
import java.util.regex.Matcher;
import java.util.regex.Pattern;

/** The public face as the document writes it, and those rules of LANGUAGE.md that can be looked up. */
final class FaceTest {
    private static final Path SOURCE = Path.of("src/main/java/WardrobeVault.java");
    private static final String[] FACE = {
        "int piece(int,int,int,int,int,int) IllegalArgument UnsupportedOperation IllegalState",
        "int set(int,char,int) IndexOutOfBounds IllegalArgument",
        "int told(int,char) IndexOutOfBounds IllegalArgument",
        "int allowance(int,char) IndexOutOfBounds IllegalArgument",
        "char place(int) IndexOutOfBounds",
        "int copy(int,int) IndexOutOfBounds IllegalArgument UnsupportedOperation IllegalState",
        "int body() IllegalState",
        "int measure(int,int,int,int,int) IndexOutOfBounds IllegalArgument IllegalState",
        "int pad(int,char,int) IndexOutOfBounds IllegalArgument",
        "int measured(int,int,char) IndexOutOfBounds IllegalArgument",
        "int fitting(int,int) IndexOutOfBounds UnsupportedOperation",
        "int alter(int,int) IndexOutOfBounds UnsupportedOperation",
        "int undo(int) IndexOutOfBounds UnsupportedOperation NoSuchElement",
        "int dye(int,int) IndexOutOfBounds IllegalArgument UnsupportedOperation",
        "int show() IllegalState",
        "int scene(int,int,int) IndexOutOfBounds IllegalArgument IllegalState",
        "int wish(int,int,int,int,int,int) IndexOutOfBounds IllegalArgument UnsupportedOperation IllegalState",
        "int costumes(int) IndexOutOfBounds",
        "int dress(int) IndexOutOfBounds",
        "int given(int,int) IndexOutOfBounds NoSuchElement",
        "int fit(int) IndexOutOfBounds",
        "int change(int,int,int,int) IndexOutOfBounds IllegalArgument",
        "int needed(int,int) IndexOutOfBounds NoSuchElement",
        "int dressers(int) IllegalArgument",
        "int neck(int,int) IndexOutOfBounds",
        "int play(int) IndexOutOfBounds UnsupportedOperation",
        "int wash()",
        "int hang(int,int) IndexOutOfBounds IllegalArgument UnsupportedOperation",
        "boolean moths(int) IndexOutOfBounds",
        "int quarantine(int) IndexOutOfBounds UnsupportedOperation",
        "int pass(int) IllegalArgument",
        "int pack(int) IndexOutOfBounds UnsupportedOperation IllegalState",
        "int trunk(int) IndexOutOfBounds NoSuchElement",
        "int lose(int) IndexOutOfBounds",
        "int unpack() UnsupportedOperation IllegalState",
        "int hire(int,int,int) IndexOutOfBounds IllegalArgument UnsupportedOperation",
        "int takeBack(int,int) IndexOutOfBounds IllegalArgument UnsupportedOperation",
        "int make(int,int,int) IndexOutOfBounds IllegalArgument IllegalState",
        "int orders()",
        "long worth()",
        "long kept()",
        "float cleanShare() Arithmetic",
        "double meanWear() Arithmetic",
        "boolean isSound()",
    };

    private FaceTest() {
    }

    public static void main(String[] args) throws IOException {
        face();
        nothingElseIsSeen();
        classesInside();
        String code = withoutComments(Files.readString(SOURCE, StandardCharsets.ISO_8859_1));
        signs(code);
        words(code);
        exceptions(code);
        shortMethods();
        indexesAreLookedAt(code);
        Due.end();
    }

    private static String signature(Method method) {
        StringBuilder all = new StringBuilder();
        all.append(method.getReturnType().getSimpleName()).append(' ').append(method.getName()).append('(');
        for (int n = 0; n < method.getParameterCount(); n++) {
            all.append(n == 0 ? "" : ",").append(method.getParameterTypes()[n].getSimpleName());
        }
        all.append(')');
        for (Class<?> thrown : method.getExceptionTypes()) {
            all.append(' ').append(thrown.getSimpleName().replace("Exception", ""));
        }
        return all.toString();
    }

    private static void face() {
        List<String> found = new ArrayList<>();
        for (Method method : WardrobeVault.class.getDeclaredMethods()) {
            if (Modifier.isPublic(method.getModifiers())) {
                found.add(signature(method));
                Due.isFalse(method.getName() + " is of an object", Modifier.isStatic(method.getModifiers()));
            }
        }
        String[] due = FACE.clone();
        Arrays.sort(due);
        found.sort(null);
        Due.same("rule 1, the face", String.join("\n", found), String.join("\n", due));
        Due.isTrue("public", Modifier.isPublic(WardrobeVault.class.getModifiers()));
        Due.isTrue("final", Modifier.isFinal(WardrobeVault.class.getModifiers()));
        Due.is("one constructor", WardrobeVault.class.getDeclaredConstructors().length, 1);
        Constructor<?> constructor = WardrobeVault.class.getDeclaredConstructors()[0];
        Due.isTrue("public constructor", Modifier.isPublic(constructor.getModifiers()));
        Due.is("without arguments", constructor.getParameterCount(), 0);
    }

    private static void nothingElseIsSeen() {
        for (Field field : WardrobeVault.class.getDeclaredFields()) {
            Due.isTrue("rule 1, private: " + field.getName(), Modifier.isPrivate(field.getModifiers()));
        }
        for (Method method : WardrobeVault.class.getDeclaredMethods()) {
            if (Modifier.isPublic(method.getModifiers()) || method.isSynthetic()) {
                continue;
            }
            Due.isTrue("rule 1, private: " + method.getName(), Modifier.isPrivate(method.getModifiers()));
            for (String line : FACE) {
                Due.isFalse("rule 1, a private one with a public one's name: " + method.getName(),
                    line.contains(" " + method.getName() + "("));
            }
        }
    }

    private static void classesInside() {
        Class<?>[] inside = WardrobeVault.class.getDeclaredClasses();
        Due.isTrue("rule 11, some twelve classes", inside.length + 1 <= 12);
        numbersOf(WardrobeVault.class);
        for (Class<?> each : inside) {
            Due.isFalse("rule 1, public: " + each.getName(), Modifier.isPublic(each.getModifiers()));
            Due.isFalse("rule 1, protected: " + each.getName(), Modifier.isProtected(each.getModifiers()));
            Due.isTrue("rule 1, static: " + each.getName(), Modifier.isStatic(each.getModifiers()));
            numbersOf(each);
        }
    }

    private static void numbersOf(Class<?> each) {
        int fields = 0;
        for (Field field : each.getDeclaredFields()) {
            boolean constant = Modifier.isStatic(field.getModifiers());
            fields += constant ? 0 : 1;
            Due.isTrue("rule 5, final: " + field.getName(), !constant || Modifier.isFinal(field.getModifiers()));
            Due.isTrue("rule 5, a number: " + field.getName(), !constant || field.getType().isPrimitive());
        }
        Due.isTrue("rule 11, some twenty fields: " + each.getName(), fields <= 20);
        for (Method method : each.getDeclaredMethods()) {
            Due.isTrue("rule 11, seven parameters: " + method.getName(), method.getParameterCount() <= 7);
        }
    }

    private static String withoutComments(String text) {
        return text.replaceAll("(?s)/\\*.*?\\*/", "").replaceAll("//[^\n]*", "");
    }

    private static void signs(String code) {
        int wrong = 0;
        for (int n = 0; n < code.length(); n++) {
            wrong += code.charAt(n) > 126 || code.charAt(n) < 10 ? 1 : 0;
        }
        Due.is("rule 4, signs that are none of 1 to 127", wrong, 0);
        Due.isFalse("rule 2, lambda", code.contains("->"));
        Due.isFalse("rule 2, method reference", code.contains("::"));
    }

    private static void words(String code) {
        Due.same("rule 4, the imports", all(code, "import [^;]*;"), "import java.util.NoSuchElementException;");
        String[] barred = {"package", "try", "catch", "finally", "synchronized", "assert", "instanceof", "record",
            "equals", "hashCode", "toString", "Object", "Random", "System", "Thread", "Class", "protected", "native",
            "transient", "volatile", "strictfp"};
        for (String word : barred) {
            Due.same("a word that is not used here", all(code, "\\b" + word + "\\b"), "");
        }
        Due.same("rule 4, Math", all(code, "\\bMath\\.(?!(min|max|abs|floorDiv|floorMod)\\()\\w+"), "");
        Due.same("rule 6, String compared", all(code, "\\bString\\b"), "");
        Due.same("rule 5, static initialiser", all(code, "static\\s*\\{"), "");
    }

    private static void exceptions(String code) {
        String allowed = "(IllegalState|IllegalArgument|IndexOutOfBounds|Arithmetic|UnsupportedOperation|NoSuchElement)";
        Due.is("rule 6, each throw makes one of these",
            count(code, "throw new " + allowed + "Exception\\(\"[^\"]*\"\\);"), count(code, "\\bthrow\\b"));
        Matcher constructors = Pattern.compile("(?m)^ {8}[A-Z]\\w*\\([^)]*\\) \\{.*?^ {8}\\}", Pattern.DOTALL).matcher(code);
        while (constructors.find()) {
            Due.isFalse("rule 6, throw in a constructor", constructors.group().contains("throw"));
        }
    }

    private static String all(String code, String pattern) {
        StringBuilder found = new StringBuilder();
        Matcher matcher = Pattern.compile(pattern).matcher(code);
        while (matcher.find()) {
            found.append(found.length() == 0 ? "" : " ").append(matcher.group());
        }
        return found.toString();
    }

    private static int count(String code, String pattern) {
        int sum = 0;
        Matcher matcher = Pattern.compile(pattern).matcher(code);
        while (matcher.find()) {
            sum++;
        }
        return sum;
    }

    /** Methods stand apart by empty lines. */
    private static void shortMethods() throws IOException {
        int lines = 0;
        for (String line : Files.readAllLines(SOURCE, StandardCharsets.ISO_8859_1)) {
            lines = line.isEmpty() ? 0 : lines + 1;
            Due.isTrue("rule 11, some sixty lines: " + line, lines <= 60);
        }
    }

    /** Methods stand apart; each name in an index is compared, or handed to a test, in the same one. */
    private static void indexesAreLookedAt(String code) {
        Pattern index = Pattern.compile("[\\w\\]]\\[([^\\[\\]]+)\\]");
        Pattern name = Pattern.compile("\\b[a-z]\\w*(\\.\\w+)*");
        for (String method : code.split("\n\n")) {
            Matcher used = index.matcher(method);
            while (used.find()) {
                Matcher names = name.matcher(used.group(1));
                while (names.find()) {
                    String each = Pattern.quote(names.group());
                    String looked = "\\b" + each + "\\s*([<>]|[=!]=)|\\b(is[A-Z]\\w*|hasScene)\\(" + each + "\\b";
                    Due.isTrue("rule 7, the index " + used.group() + " is looked at in" + method,
                        Pattern.compile(looked).matcher(method).find());
                }
            }
        }
    }
}
