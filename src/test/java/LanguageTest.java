import java.lang.reflect.Constructor;
import java.lang.reflect.Field;
import java.lang.reflect.Method;
import java.lang.reflect.Modifier;
import java.nio.file.Files;
import java.nio.file.Path;
import java.util.Arrays;
import java.util.Set;
import java.util.TreeSet;
import java.util.regex.Matcher;
import java.util.regex.Pattern;

/** Rules of ../shared/LANGUAGE.md that can be seen in the source's text and in the classes made of it. */
public final class LanguageTest {
    private static final Check CHECK = new Check("LanguageTest");
    private static final String FACE = "day(int)boolean holder(int,int,int,int,int)int note(int,int,int)int "
            + "undo(int)boolean classOf(int,int,int)int feed(int,int,int,int,int)int orders(int,int)int fault()int "
            + "rule(int,int,int)int units(int,int,int)int issue(int,int)int lend(int,int)boolean owner(int)int "
            + "station()int pour(int,int,int)int handIn(int)int poured(int,int)int found(int)int deliver(int,int)int "
            + "dip(int,int)int in(int,int)int sums(int,int,int,int)long level(int,int)boolean judged(int,int,int)long "
            + "port(int)int want(int,int)boolean road(int,int,int)boolean flow(int,int)int "
            + "ask(int,int,int,int,int,int)int appeal(int,int)int journey(int,int)int pool(int,int,int)int "
            + "other(int,int,int,int)int stays(int,int)int foretold(int,boolean)int count(int)int";

    public static void main(String[] args) throws Exception {
        face();
        classes();
        text(Files.readString(Path.of("src/main/java/PetrolBoard.java")));
        CHECK.finish();
    }

    private static boolean isHidden(int modifiers) {
        return Modifier.isPrivate(modifiers);
    }

    private static String signature(Method m) {
        StringBuilder b = new StringBuilder(m.getName()).append('(');
        for (Class<?> type : m.getParameterTypes()) {
            b.append(b.charAt(b.length() - 1) == '(' ? "" : ",").append(type);
        }
        return b.append(')').append(m.getReturnType()).toString();
    }

    private static void face() {
        CHECK.promise("rule 1, the face");
        Set<String> due = new TreeSet<>(Arrays.asList(FACE.split(" ")));
        Set<String> got = new TreeSet<>();
        for (Method m : PetrolBoard.class.getDeclaredMethods()) {
            if (!m.isSynthetic() && !isHidden(m.getModifiers())) {
                CHECK.due(Modifier.isPublic(m.getModifiers()) && !Modifier.isStatic(m.getModifiers()), true);
                got.add(signature(m));
            }
        }
        CHECK.due(due.size(), 36);
        CHECK.due(got.equals(due), true);
        Constructor<?>[] made = PetrolBoard.class.getDeclaredConstructors();
        CHECK.due(made.length, 1);
        CHECK.due(Modifier.isPublic(made[0].getModifiers()) && made[0].getParameterCount() == 0, true);
        for (Field f : PetrolBoard.class.getDeclaredFields()) {
            CHECK.due(f.getName().equals("NONE") || isHidden(f.getModifiers()), true);
        }
        CHECK.due(PetrolBoard.NONE, -1);
        CHECK.due(Modifier.isFinal(PetrolBoard.class.getModifiers()), true);
    }

    private static void classes() {
        CHECK.promise("rules 1, 2, 5 and 11, classes and members");
        Set<String> names = new TreeSet<>();
        for (String signature : FACE.split(" ")) {
            names.add(signature.substring(0, signature.indexOf('(')));
        }
        Class<?>[] inside = PetrolBoard.class.getDeclaredClasses();
        CHECK.due(inside.length <= 11, true);
        for (Class<?> c : inside) {
            CHECK.due(Modifier.isStatic(c.getModifiers()) && !Modifier.isPublic(c.getModifiers()), true);
            CHECK.due(c.getDeclaredClasses().length, 0);
            members(c, names);
        }
        members(PetrolBoard.class, Set.of());
        for (Method m : PetrolBoard.class.getDeclaredMethods()) {
            CHECK.due(isHidden(m.getModifiers()) && names.contains(m.getName()), false);
        }
    }

    private static void members(Class<?> c, Set<String> taken) {
        int fields = 0;
        for (Field f : c.getDeclaredFields()) {
            boolean fixed = Modifier.isStatic(f.getModifiers());
            CHECK.due(!fixed || Modifier.isFinal(f.getModifiers()), true);
            fields += fixed ? 0 : 1;
        }
        CHECK.due(fields <= 20, true);
        for (Method m : c.getDeclaredMethods()) {
            CHECK.due(m.getParameterCount() <= 7, true);
            CHECK.due(taken.contains(m.getName()), false);
        }
    }

    private static void text(String source) {
        CHECK.promise("rules 3 to 6, what stands in the text");
        String code = source.replaceAll("(?s)/\\*.*?\\*/", "").replaceAll("//[^\n]*", "");
        String[] never = {"\\bthrow\\b", "\\bthrows\\b", "\\btry\\b", "\\bcatch\\b", "\\bsynchronized\\b",
            "\\bassert\\b", "\\bpackage\\b", "->", "::", "Exact\\b", "\\bfloat\\b", "\\bdouble\\b", "\\bObject\\b",
            "\\bSystem\\b", "\\bRandom\\b", "\\bThread\\b", "\\bprotected\\b", "[^\\x00-\\x7f]", "\\w\" *\\+"};
        for (String each : never) {
            CHECK.due(Pattern.compile(each).matcher(code).find(), false);
        }
        Matcher imports = Pattern.compile("import ([^;]*);").matcher(code);
        while (imports.find()) {
            CHECK.due(imports.group(1).equals("java.util.Arrays"), true);
        }
        CHECK.promise("rule 11, long methods");
        int start = 0;
        String[] lines = source.split("\n");
        for (int k = 0; k < lines.length; k++) {
            if (lines[k].matches("( {4}| {8})(public|private|static|final|int|long|boolean|void|[A-Z]\\w*)\\b.*\\{")) {
                start = k;
            }
            if (lines[k].matches("( {4}| {8})\\}") && !lines[start].contains(" class ")) {
                CHECK.due(k - start <= 60, true);
            }
        }
    }
}
