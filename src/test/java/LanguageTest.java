import java.io.IOException;
import java.lang.reflect.Field;
import java.lang.reflect.Method;
import java.lang.reflect.Modifier;
import java.nio.file.Files;
import java.nio.file.Path;
import java.util.Arrays;
import java.util.Set;
import java.util.TreeSet;
import java.util.regex.Matcher;
import java.util.regex.Pattern;

/** The face, and those rules of LANGUAGE.md that a look at the class or its text can tell. */
public final class LanguageTest {
    private static final String FACE = "as(int,int):int back(int):int best(int,int):int cell(int,int,int):long "
            + "copy(int,int,int,int,int):int fall(int,int,int,int,int):int fault():int fits(int):int "
            + "harm(int,int,int,int,int):int letGo():int lose(int):int many(int):int nail(int,int,int,int,int):int "
            + "never(int,int,int,int):int ofThing(int,int):int put(int,int,int):int reading(int,int,boolean):int "
            + "rust(int):int safe():int sheet(int,int,int):int site(int,int):int smithy(int):int "
            + "street(int,int,int,int):int strike(int):int tell(int):int trace():int two(int,int):int ";

    public static void main(String[] args) throws IOException, ReflectiveOperationException {
        face();
        constants();
        parts();
        text(Files.readString(Path.of("src/main/java/OneNail.java")));
        Check.end();
    }

    private static void face() {
        Set<String> seen = new TreeSet<>();
        Set<String> names = new TreeSet<>();
        for (Method method : OneNail.class.getDeclaredMethods()) {
            if (Modifier.isPublic(method.getModifiers())) {
                names.add(method.getName());
                seen.add(method.getName() + Arrays.toString(method.getParameterTypes()).replace('[', '(')
                        .replace(']', ')').replace(" ", "") + ":" + method.getReturnType());
            }
        }
        Check.holds("the face's methods: " + seen, String.join(" ", seen).concat(" ").equals(FACE));
        for (Class<?> part : OneNail.class.getDeclaredClasses()) {
            for (Method method : part.getDeclaredMethods()) {
                Check.holds("1 name of " + method, !names.contains(method.getName()));
            }
        }
        for (Method method : OneNail.class.getDeclaredMethods()) {
            boolean open = Modifier.isPublic(method.getModifiers());
            Check.holds("1 " + method, open || Modifier.isPrivate(method.getModifiers()));
            Check.holds("1 name of " + method, open || !names.contains(method.getName()));
        }
        Check.holds("1 final", Modifier.isFinal(OneNail.class.getModifiers()));
        Check.due("1 constructors", OneNail.class.getDeclaredConstructors().length, 1);
        Check.due("1 public constructors", OneNail.class.getConstructors().length, 1);
    }

    private static void constants() throws ReflectiveOperationException {
        Check.due("public fields", OneNail.class.getFields().length, 6);
        Check.due("UNKNOWN", OneNail.UNKNOWN, -1);
        Check.due("OUTSIDE", OneNail.OUTSIDE, -2);
        Check.due("STATE", OneNail.STATE, -3);
        Check.due("FULL", OneNail.FULL, -4);
        Check.due("NONE", OneNail.NONE, -9);
        Check.due("LOST", OneNail.LOST, Long.MIN_VALUE);
        for (Field field : OneNail.class.getDeclaredFields()) {
            int how = field.getModifiers();
            Check.holds("1 " + field, Modifier.isPublic(how) || Modifier.isPrivate(how));
        }
    }

    private static void parts() {
        Class<?>[] parts = OneNail.class.getDeclaredClasses();
        Check.holds("11 classes", parts.length + 1 <= 12);
        for (Class<?> part : parts) {
            int how = part.getModifiers();
            Check.holds("2 " + part, Modifier.isStatic(how) && !Modifier.isPublic(how) && !Modifier.isProtected(how));
            measure(part);
        }
        measure(OneNail.class);
    }

    private static void measure(Class<?> part) {
        int own = 0;
        for (Field field : part.getDeclaredFields()) {
            boolean fixed = Modifier.isStatic(field.getModifiers());
            own += fixed ? 0 : 1;
            Check.holds("5 " + field, !fixed || Modifier.isFinal(field.getModifiers()));
        }
        Check.holds("11 fields of " + part, own <= 20);
        for (Method method : part.getDeclaredMethods()) {
            Check.holds("11 parameters of " + method, method.getParameterCount() <= 7);
            Check.holds("8 synthetic " + method, !method.isSynthetic());
        }
    }

    private static void text(String source) {
        String code = source.replaceAll("(?s)/\\*.*?\\*/", "").replaceAll("//[^\n]*", "");
        for (String word : new String[] {"throw", "throws", "try", "catch", "finally", "synchronized", "assert",
            "import", "package", "var", "native", "volatile", "transient", "yield"}) {
            Check.holds("6 no " + word, !Pattern.compile("\\b" + word + "\\b").matcher(code).find());
        }
        for (String sign : new String[] {"->", "::", "Exact(", "\"", "hashCode", "toString", "static {"}) {
            Check.holds("no " + sign, !code.contains(sign));
        }
        library(code.replace("long LOST = Long.MIN_VALUE", ""));
        Check.holds("signs 1 to 127", source.chars().allMatch(c -> c >= 1 && c <= 127));
        methodLengths(source);
    }

    /** Rule 4 lists the functions of Integer, Long and Math, not their constants; LOST is the face's own. */
    private static void library(String code) {
        Matcher used = Pattern.compile("\\b([A-Z]\\w*)\\.(\\w+)(\\(?)").matcher(code);
        while (used.find()) {
            boolean numbers = used.group(1).matches("Integer|Long|Math");
            boolean rows = used.group(1).equals("System") && used.group(2).equals("arraycopy");
            Check.holds("4 " + used.group(), (numbers || rows) && used.group(3).equals("("));
        }
    }

    /** A method's body is what stands between a line that opens it and the brace that stands as deep. */
    private static void methodLengths(String source) {
        String[] lines = source.split("\n");
        for (int from = 0; from < lines.length; from++) {
            String line = lines[from];
            if (line.endsWith(") {") && !line.matches("\\s*(if|for|while|switch|\\}).*")) {
                String end = line.substring(0, line.length() - line.stripLeading().length()) + "}";
                int to = from + 1;
                while (to < lines.length && !lines[to].equals(end)) {
                    to++;
                }
                Check.holds("11 length of " + line.strip(), to - from < 60);
            }
        }
    }
}
