import java.io.IOException;
import java.lang.reflect.Constructor;
import java.lang.reflect.Field;
import java.lang.reflect.Member;
import java.lang.reflect.Method;
import java.lang.reflect.Modifier;
import java.nio.charset.StandardCharsets;
import java.nio.file.Files;
import java.nio.file.Path;
import java.util.Arrays;
import java.util.List;
import java.util.Set;
import java.util.TreeSet;
import java.util.regex.Matcher;
import java.util.regex.Pattern;
import java.util.stream.Collectors;
import java.util.stream.Stream;

/** The face is the document's and no more; and what of ../shared/LANGUAGE.md can be seen from outside and in the text. */
public final class FaceTest {
    private static final String FACE = "int tongue(int) int rule(int,int,int,int,int) boolean unrule(int) boolean word(int,int,int) int form(int,int) "
        + "boolean field(int,int) boolean road(int,int,int) int person(int,int,int,int) boolean have(int,int) boolean health(int,int) boolean go(int,int) "
        + "int day() int tell(int,int) int feed(int,int,int,int,int) int end(int) int custom(int) int fault(int) boolean may(int,int,int,int) "
        + "int why(int,int,int,int) boolean writes(int,int) boolean letter(int,int,int) int tape(int) boolean copy(int) int about(int,int) "
        + "int ask(int,int,int,int) int row(int,int) int play(int,int) int known(int,int,int,int) int same(int,int) int find(int,int) int reading(int,int) "
        + "int next(int,int) int visits(int,int,int) int visited(int,int,int) int copies(int) boolean cost(int,int) int schools(int,int) "
        + "int teach(int,int,int) int make(int,int,int,int) int print(int,int,int) int printed(int,int) int grant(int,int,int) int granted(int,int) "
        + "int count(int) boolean image(int) boolean again(int)";
    private static final List<String> FORBIDDEN = List.of("\\bthrow\\b", "\\btry\\b", "\\bcatch\\b", "\\bsynchronized\\b", "\\bassert\\b", "->", "::",
        "\\w+Exact\\b", "\\bpackage\\b", "\\bdouble\\b", "\\bfloat\\b", "Integer\\.MAX_VALUE", "Integer\\.MIN_VALUE", "\\bstatic \\{", "\\bnew \\w+\\(.*\\) \\{");

    private static int wrong = 0;

    private static void check(boolean right, String what) {
        if (!right) { wrong++; System.out.println(what); }
    }

    public static void main(String[] args) throws IOException {
        face();
        inside();
        text(Files.readString(Path.of("src/main/java/LastTongue.java"), StandardCharsets.UTF_8));
        System.out.println(wrong == 0 ? "the face is as due" : wrong + " things of the face or the text are not as due");
        if (wrong != 0) System.exit(1);
    }

    private static boolean isPrivate(Member m) { return Modifier.isPrivate(m.getModifiers()); }

    private static void face() {
        Class<?> c = LastTongue.class;
        check(Modifier.isPublic(c.getModifiers()) && Modifier.isFinal(c.getModifiers()) && c.getPackageName().isEmpty(), "the class is not public and final");
        Set<String> has = new TreeSet<>();
        for (Method m : c.getDeclaredMethods()) {
            String types = Arrays.stream(m.getParameterTypes()).map(Class::getName).collect(Collectors.joining(","));
            if (!isPrivate(m)) has.add(m.getReturnType().getName() + " " + m.getName() + "(" + types + ")");
            check(isPrivate(m) || Modifier.isPublic(m.getModifiers()) && !Modifier.isStatic(m.getModifiers()), m + " is neither private nor of the face");
        }
        Set<String> due = new TreeSet<>(Arrays.asList(FACE.split(" (?=int|boolean)")));
        check(has.equals(due), "the face is " + has + ", due is " + due);
        Constructor<?>[] made = c.getDeclaredConstructors();
        check(made.length == 1 && Modifier.isPublic(made[0].getModifiers()) && made[0].getParameterCount() == 0, "the constructor");
        for (Field f : c.getDeclaredFields()) check(isPrivate(f) || f.getName().equals("NONE"), f + " can be seen");
        check(LastTongue.NONE == -1, "NONE");
    }

    private static void inside() {
        Class<?>[] all = LastTongue.class.getDeclaredClasses();
        check(all.length <= 12, all.length + " classes inside");
        Set<String> publicNames = Arrays.stream(LastTongue.class.getDeclaredMethods()).filter(m -> !isPrivate(m)).map(Method::getName).collect(Collectors.toSet());
        for (Class<?> c : Stream.concat(Stream.of(LastTongue.class), Arrays.stream(all)).toList()) {
            boolean outer = c == LastTongue.class;
            check(outer || Modifier.isStatic(c.getModifiers()) && !Modifier.isPublic(c.getModifiers()), c + " is not static, or public");
            long fields = Arrays.stream(c.getDeclaredFields()).filter(f -> !Modifier.isStatic(f.getModifiers())).count();
            check(fields <= 20, c + " has " + fields + " fields");
            for (Field f : c.getDeclaredFields()) check(!Modifier.isStatic(f.getModifiers()) || Modifier.isFinal(f.getModifiers()), f + " is static and not final");
            for (Method m : c.getDeclaredMethods()) {
                check(m.getParameterCount() <= 7, m + " takes too many");
                check(outer && !isPrivate(m) || !publicNames.contains(m.getName()), m + " bears the name of a public one");
            }
        }
    }

    private static void text(String source) {
        String code = source.replaceAll("(?s)/\\*.*?\\*/|//[^\n]*", "").replaceAll("\"[^\"\n]*\"", "\"\"");
        for (String f : FORBIDDEN) {
            Matcher m = Pattern.compile(f).matcher(code);
            check(!m.find(), "the text has " + f);
        }
        check(source.chars().allMatch(ch -> ch < 128), "the text has a sign above 127");
        Matcher imports = Pattern.compile("import (.*);").matcher(code);
        while (imports.find()) check(imports.group(1).equals("java.util.Arrays"), "the text imports " + imports.group(1));
        int start = 0;
        String[] lines = source.split("\n");
        for (int i = 0; i < lines.length; i++) {
            if (lines[i].matches("( {4}| {8})\\w.*\\) \\{")) start = i;
            if (lines[i].matches("( {4}| {8})\\}")) { check(i - start < 60 || lines[start].contains("class"), "a long method at line " + (start + 1)); start = i; }
        }
    }
}
