import java.lang.reflect.Field;
import java.lang.reflect.Method;
import java.lang.reflect.Modifier;
import java.nio.file.Files;
import java.nio.file.Path;
import java.util.HashSet;
import java.util.Set;
import java.util.TreeSet;
import java.util.regex.Matcher;
import java.util.regex.Pattern;

/** The public face, and those rules of LANGUAGE.md that can be seen in the source or the classes. */
public final class LanguageTest {
    private static final String FACE = """
        public int feed(long,int)
        public int clerk()
        public int worth(int,int)
        public int weigh(int,int,int)
        public int sign(int,int)
        public int dayOf(int,int)
        public int set(int,int)
        public int sayer(int,int)
        public int sayerOf(int,int)
        public int mind(int,int,int)
        public int purse(int,int)
        public int say(int,int,int)
        public int sayingOf(int,int)
        public int would(int,int)
        public int morning(int)
        public int now()
        public int owner(int)
        public int odds(int,int,int)
        public long gain(int,int,int)
        public long waited(int,int)
        public int best(int)
        public long whole(int,int)
        public long owed(int)
        public int believed(int,int)
        public int whom()
        public int open()
        public int seed(int)
        public int prove(int)
        public int row(int,int)
        public int alterRow(int,int,int)
        public int judge()
        public int worths(int,int,int,int)
        public int sheet(int,int,int)
        public int put(int,int,int)
        public int item(int,int,int)
        public int shelf(int,int,int)
        public int taken(int,int)
        public int act(int,int,int)
        public int trace(int)
        public int many(int)
        public int keep()
        public int again()
        """;

    public static void main(String[] args) throws Exception {
        face();
        members();
        nested();
        source(Files.readString(Path.of(args.length > 0 ? args[0] : "src/main/java/SaidWeather.java")));
        Due.end();
    }

    private static void face() {
        Set<String> want = new TreeSet<>(FACE.lines().toList());
        Set<String> got = new TreeSet<>();
        for (Method method : SaidWeather.class.getDeclaredMethods()) {
            if (Modifier.isPublic(method.getModifiers())) {
                got.add(method.toString().replace("SaidWeather.", ""));
            }
        }
        Due.same("the public methods", got.toString(), want.toString());
        Due.is("public final", SaidWeather.class.getModifiers(), Modifier.PUBLIC | Modifier.FINAL);
        Due.is("constructors", SaidWeather.class.getDeclaredConstructors().length, 1);
        Due.is("BAD", SaidWeather.BAD, -1);
        Due.is("FULL", SaidWeather.FULL, -2);
        Due.is("NONE", SaidWeather.NONE, -3);
        Due.is("STATE", SaidWeather.STATE, -4);
        Due.is("NO", SaidWeather.NO, -1000000000000L);
    }

    private static boolean isPrivate(int modifiers) {
        return Modifier.isPrivate(modifiers);
    }

    private static void members() {
        Set<String> open = new TreeSet<>();
        for (Field field : SaidWeather.class.getDeclaredFields()) {
            if (!isPrivate(field.getModifiers())) {
                open.add(field.toString().replace("SaidWeather.", ""));
            }
        }
        Due.same("fields that are not private", open.toString(),
            "[public static final int BAD, public static final int FULL, public static final int NONE,"
                + " public static final int STATE, public static final long NO]");
        Set<String> names = new HashSet<>();
        FACE.lines().forEach(line -> names.add(line.replaceAll(".* (\\w+)\\(.*", "$1")));
        for (Method method : SaidWeather.class.getDeclaredMethods()) {
            if (!Modifier.isPublic(method.getModifiers())) {
                Due.is(method + " is private", isPrivate(method.getModifiers()) ? 1 : 0, 1);
                Due.is(method + " has a name of its own", names.contains(method.getName()) ? 1 : 0, 0);
            }
        }
    }

    private static void nested() {
        Class<?>[] classes = SaidWeather.class.getDeclaredClasses();
        Due.is("some twelve classes", classes.length <= 11 ? 1 : 0, 1);
        for (Class<?> inside : classes) {
            Due.is(inside + " is static", Modifier.isStatic(inside.getModifiers()) ? 1 : 0, 1);
            int fields = 0;
            for (Field field : inside.getDeclaredFields()) {
                boolean isStatic = Modifier.isStatic(field.getModifiers());
                fields += isStatic ? 0 : 1;
                Due.is(field + " is final if static", isStatic && !Modifier.isFinal(field.getModifiers()) ? 1 : 0, 0);
            }
            Due.is(inside + " has some twenty fields", fields <= 20 ? 1 : 0, 1);
        }
    }

    private static void source(String source) {
        String code = source.replaceAll("(?s)/\\*.*?\\*/", "").replaceAll("//[^\n]*", "")
            .replaceAll("\"[^\"\n]*\"", "\"\"");
        String[] never = {"\\bthrow\\b", "\\btry\\b", "\\bcatch\\b", "\\bsynchronized\\b", "\\bassert\\b", "->", "::",
            "\\bimport\\b", "\\bpackage\\b", "@", "Exact\\b", "\\bnative\\b", "\\bvolatile\\b", "\\bdouble\\b",
            "\\bfloat\\b", "\\bObject\\b", "\\bSystem\\.(?!arraycopy\\b)", "\\bequals\\b", "\\bhashCode\\b",
            "\\btoString\\b", "\\bjava\\.", "\\bstatic\\s*\\{"};
        for (String rule : never) {
            Matcher found = Pattern.compile(rule).matcher(code);
            Due.is("the source has " + rule, found.find() ? 1 : 0, 0);
        }
        for (int i = 0; i < source.length(); i++) {
            if (source.charAt(i) > 126) {
                Due.is("a sign beyond 126 at " + i, 1, 0);
            }
        }
        methodsAreShort(source);
    }

    private static void methodsAreShort(String source) {
        int from = 0;
        int number = 0;
        for (String line : source.split("\n")) {
            number++;
            if (line.matches("\\s+[\\w\\[\\]<> ]+\\([^;]*\\) \\{") && !line.matches("\\s+(if|for|while|switch|}|else).*")) {
                from = number;
            } else if (line.matches(" {4}(?: {4})?}")) {
                Due.is("the method of line " + from + " is short", number - from <= 60 || from == 0 ? 1 : 0, 1);
                from = 0;
            }
        }
    }
}
