import com.sun.management.ThreadMXBean;
import java.lang.management.ManagementFactory;
import java.lang.reflect.Field;
import java.lang.reflect.Member;
import java.lang.reflect.Method;
import java.lang.reflect.Modifier;
import java.nio.file.Files;
import java.nio.file.Path;
import java.util.Arrays;
import java.util.List;
import java.util.Set;
import java.util.TreeSet;
import java.util.regex.Matcher;
import java.util.regex.Pattern;

/** The document's face, and what of ../shared/LANGUAGE.md can be seen from outside or from the words of the source. */
public final class FaceTest {
    private static final Pattern FACE =
        Pattern.compile("(?s)```java\npublic final class WeatherPass \\{\n(.*?)\n}\n```");
    private static final String[] FORBIDDEN = {"throw", "throws", "try", "catch", "finally", "synchronized", "assert",
        "protected", "native", "volatile", "transient", "::", "Exact", "hashCode", "getClass", "random", "package"};
    /** All calls of a run have 7.3 million fields and elements: of 8 bytes each at most. */
    private static final long ROOM = 8 * 7_300_000L;

    private static int wrong = 0;

    private static void check(boolean holds, String what) {
        if (!holds) {
            wrong++;
            System.out.println(what);
        }
    }

    public static void main(String[] args) throws Exception {
        List<String> face = face();
        methods(face);
        constants(face);
        String source = Files.readString(Path.of(System.getProperty("project"), "src/main/java/WeatherPass.java"));
        String code = source.replaceAll("(?s)/\\*.*?\\*/", "").replaceAll("//[^\n]*", "")
            .replaceAll("\"([^\"\\\\\n]|\\\\.)*\"", "TEXT");
        words(source, code);
        classes();
        lengths(code);
        room();
        System.out.println(wrong == 0 ? "the face is the document's" : wrong + " things are not as told");
        if (wrong != 0) {
            System.exit(1);
        }
    }

    /** The lines of the document's public face, without the class's own and the word public. */
    private static List<String> face() throws Exception {
        String document = Files.readString(Path.of(System.getProperty("project"), "../shared/DOC.md"));
        Matcher found = FACE.matcher(document);
        List<String> lines = found.find() ? found.group(1).lines().toList() : List.of();
        check(lines.size() > 3, "the document has no face");
        check(lines.stream().allMatch(line -> line.matches("    public [^{}]*;")), "a line of the face is another one");
        return lines.stream().map(line -> line.replaceAll("^    public |;$", "")).toList();
    }

    private static boolean isHidden(Member member) {
        return Modifier.isPrivate(member.getModifiers()) || member.isSynthetic();
    }

    private static void methods(List<String> face) {
        Set<String> told = new TreeSet<>();
        for (String line : face) {
            if (line.contains("(")) {
                told.add(line.replaceAll("(int|long) \\w+([,)])", "$1$2"));
            }
        }
        check(told.remove("WeatherPass()"), "the face has no constructor without numbers");
        Set<String> names = new TreeSet<>();
        Set<String> seen = new TreeSet<>();
        for (Method method : WeatherPass.class.getDeclaredMethods()) {
            if (!isHidden(method)) {
                check(method.getModifiers() == Modifier.PUBLIC, method + " is not just public");
                names.add(method.getName());
                seen.add(method.getReturnType() + " " + method.getName() + "("
                    + String.join(", ", Arrays.stream(method.getParameterTypes()).map(Class::getName).toList()) + ")");
            }
        }
        check(seen.equals(told), "the methods are " + seen);
        for (Class<?> type : types()) {
            for (Method method : type.getDeclaredMethods()) {
                check(!isHidden(method) || !names.contains(method.getName()), "a private one bears its name: " + method);
                check(!method.getName().startsWith("lambda$"), "a lambda: " + method);
                check(method.getParameterCount() <= 7, "too many parameters: " + method);
            }
        }
        check(WeatherPass.class.getModifiers() == (Modifier.PUBLIC | Modifier.FINAL), "the class is not public final");
        check(WeatherPass.class.getDeclaredConstructors().length == 1, "there are other constructors");
        check(Arrays.stream(WeatherPass.class.getConstructors()).anyMatch(made -> made.getParameterCount() == 0),
            "the constructor is not public, or takes something");
    }

    private static void constants(List<String> face) throws Exception {
        Set<String> told = new TreeSet<>();
        for (String line : face) {
            Matcher constants = Pattern.compile("static final (int|long) (.*)").matcher(line);
            if (constants.matches()) {
                for (String constant : constants.group(2).split(", ")) {
                    told.add(constants.group(1) + " " + constant.replace(" =", "")
                        .replace("Long.MIN_VALUE", "" + Long.MIN_VALUE));
                }
            }
        }
        Set<String> seen = new TreeSet<>();
        for (Field field : WeatherPass.class.getDeclaredFields()) {
            if (!isHidden(field)) {
                check(field.getModifiers() == (Modifier.PUBLIC | Modifier.STATIC | Modifier.FINAL), field + "");
                seen.add(field.getType() + " " + field.getName() + " " + field.get(null));
            }
        }
        check(seen.equals(told), "the constants are " + seen);
    }

    private static List<Class<?>> types() {
        Class<?>[] inside = WeatherPass.class.getDeclaredClasses();
        Class<?>[] all = Arrays.copyOf(inside, inside.length + 1);
        all[inside.length] = WeatherPass.class;
        return List.of(all);
    }

    private static void classes() {
        check(types().size() <= 12, "too many classes");
        for (Class<?> type : types()) {
            int own = 0;
            for (Field field : type.getDeclaredFields()) {
                boolean isStatic = Modifier.isStatic(field.getModifiers());
                own += isStatic ? 0 : 1;
                check(!isStatic || Modifier.isFinal(field.getModifiers()), "static and not final: " + field);
            }
            check(own <= 20, "too many fields in " + type);
            boolean isInside = type != WeatherPass.class;
            check(!isInside || Modifier.isStatic(type.getModifiers()), "not static: " + type);
            check(!isInside || !Modifier.isPublic(type.getModifiers()), "public: " + type);
        }
    }

    private static void words(String source, String code) {
        for (String word : FORBIDDEN) {
            boolean isWord = Character.isLetter(word.charAt(0)) && !word.equals("Exact");
            String pattern = isWord ? "\\b" + Pattern.quote(word) + "\\b" : Pattern.quote(word);
            check(!Pattern.compile(pattern).matcher(code).find(), "the source has " + word);
        }
        Matcher imports = Pattern.compile("import ([^;]*);").matcher(code);
        while (imports.find()) {
            check(imports.group(1).matches("java\\.util\\.(Arrays|ArrayList|List|Iterator)"), imports.group());
        }
        Matcher calls = Pattern.compile("\\b(Math|Integer|Long|Arrays|System)\\.(\\w+)").matcher(code);
        while (calls.find()) {
            boolean isOfSystem = calls.group(1).equals("System");
            boolean isOfArrays = calls.group(1).equals("Arrays");
            check(!isOfSystem || calls.group(2).equals("arraycopy"), "the source calls " + calls.group());
            check(!isOfArrays || Set.of("fill", "copyOf", "copyOfRange").contains(calls.group(2)),
                "the source calls " + calls.group());
        }
        check(source.chars().allMatch(sign -> sign < 127), "the source has signs beyond 126");
    }

    private static void lengths(String code) {
        Matcher heads = Pattern.compile("[\\w>\\]] \\w+\\([^;{}()]*\\)\\s*\\{").matcher(code);
        int found = 0;
        while (heads.find()) {
            found++;
            int lines = linesToEnd(code, heads.end());
            check(lines <= 60, lines + " lines of " + heads.group());
        }
        check(found > 31, "only " + found + " bodies found");
    }

    /** How many lines a body has, from behind its first brace to the one that ends it. */
    private static int linesToEnd(String code, int from) {
        int lines = 1;
        int open = 1;
        for (int at = from; at < code.length() && open > 0; at++) {
            char sign = code.charAt(at);
            lines += sign == '\n' ? 1 : 0;
            open += sign == '{' ? 1 : sign == '}' ? -1 : 0;
        }
        return lines;
    }

    /** The dearest calls of a run, as many as an object answers. */
    private static void room() {
        ThreadMXBean thread = (ThreadMXBean) ManagementFactory.getThreadMXBean();
        long before = thread.getCurrentThreadAllocatedBytes();
        WeatherPass x = new WeatherPass();
        String text = "v6,00,00,00,00,00,00-f1-c2-p3-c4-f5;99999999";
        x.sheet(0, 0, text.length());
        for (int i = 0; i < text.length(); i++) {
            x.put(0, i, text.charAt(i));
        }
        check(x.land(0, 0, 0, text.length()) == 5, "there is no land");
        for (int call = text.length() + 3; call + 3 < 512; call += 4) {
            check(x.odds(5, 1) > 0 && x.most() >= 0 && x.papers() < 32 && x.limits(0) > 0, "a call was refused");
        }
        long room = thread.getCurrentThreadAllocatedBytes() - before;
        check(room < ROOM, "the calls of a run took " + room + " bytes");
    }
}
