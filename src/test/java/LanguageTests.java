import java.io.IOException;
import java.lang.reflect.Constructor;
import java.lang.reflect.Field;
import java.lang.reflect.Method;
import java.lang.reflect.Modifier;
import java.nio.file.Files;
import java.nio.file.Path;
import java.util.ArrayList;
import java.util.HashSet;
import java.util.List;
import java.util.Set;
import java.util.TreeSet;
import java.util.regex.Matcher;
import java.util.regex.Pattern;

/** The document's face, and those rules of ../shared/LANGUAGE.md that can be seen by machine. */
final class LanguageTests {
    private static final Path SOURCE = Path.of("src/main/java/WindTaken.java");
    private static final String[] FACE = {
        "int row(int,int,int)", "int set(int,int,int)", "int copy(int,int,int,int,int)", "int drop(int)",
        "int feed(long,int)", "int ridge()", "int fault()", "int furl(int,int)", "int face(int,int)",
        "int build(int)", "int bring(int,int)", "int hour(int,int)", "int hours(int,int,int)",
        "int mill(int,int)", "int left(int,int,int,int)", "int made(int,int,int)", "int best(int,int,int)",
        "int part(int,int,int)", "int still(int,int,int,int,int)", "int higher(int,int,int,int)",
        "int owes(int,int,int,int)", "int night(int,int,int,int,int)", "int years(int,int,int)",
        "int image(int)", "int restore(int)", "int kind(int)", "int as(int,int)", "int ask(int,int)",
        "int trace(int)", "int count(int)", "int status()"};
    private static final String[] FORBIDDEN = {"throw", "throws", "try", "catch", "synchronized", "assert",
        "yield", "import", "package", "var", "extends", "native", "System.out", "Math.random", "Exact"};

    private LanguageTests() {
    }

    static void run() {
        face();
        constants();
        innerClasses();
        source();
    }

    private static void face() {
        Set<String> wanted = new TreeSet<>(List.of(FACE));
        Set<String> there = new TreeSet<>();
        Set<String> names = new HashSet<>();
        for (Method method : WindTaken.class.getDeclaredMethods()) {
            if (!Modifier.isPrivate(method.getModifiers())) {
                there.add(told(method));
                names.add(method.getName());
                Check.due("modifiers of " + told(method), method.getModifiers(), Modifier.PUBLIC);
            }
        }
        Check.holds("the face " + there, there.equals(wanted));
        for (Method method : WindTaken.class.getDeclaredMethods()) {
            boolean hidden = Modifier.isPrivate(method.getModifiers());
            Check.holds("no public one's name: " + told(method), !hidden || !names.contains(method.getName()));
        }
        Constructor<?>[] constructors = WindTaken.class.getDeclaredConstructors();
        Check.due("constructors", constructors.length, 1);
        Check.due("its modifiers", constructors[0].getModifiers(), Modifier.PUBLIC);
        Check.due("its parameters", constructors[0].getParameterCount(), 0);
        Check.due("the class", WindTaken.class.getModifiers(), Modifier.PUBLIC | Modifier.FINAL);
    }

    private static String told(Method method) {
        StringBuilder told = new StringBuilder(method.getReturnType() + " " + method.getName() + "(");
        for (Class<?> type : method.getParameterTypes()) {
            told.append(told.charAt(told.length() - 1) == '(' ? "" : ",").append(type);
        }
        return told.append(')').toString();
    }

    private static void constants() {
        Check.due("NONE", WindTaken.NONE, -1000000);
        Check.due("BAD", WindTaken.BAD, -1000001);
        Check.due("STATE", WindTaken.STATE, -1000002);
        Check.due("FULL", WindTaken.FULL, -1000003);
        Set<String> open = new TreeSet<>();
        for (Field field : WindTaken.class.getDeclaredFields()) {
            int is = field.getModifiers();
            if (!Modifier.isPrivate(is)) {
                open.add(field.getName());
            }
            Check.holds("static, so final: " + field, !Modifier.isStatic(is) || Modifier.isFinal(is));
        }
        Check.holds("constants " + open, open.equals(Set.of("NONE", "BAD", "STATE", "FULL")));
    }

    private static void innerClasses() {
        List<Class<?>> all = new ArrayList<>(List.of(WindTaken.class.getDeclaredClasses()));
        Check.holds("at most twelve classes", all.size() + 1 <= 12);
        for (Class<?> inner : all) {
            int is = inner.getModifiers();
            Check.holds("static: " + inner, Modifier.isStatic(is));
            Check.holds("not open: " + inner, !Modifier.isPublic(is) && !Modifier.isProtected(is));
        }
        all.add(WindTaken.class);
        for (Class<?> one : all) {
            int fields = 0;
            for (Field field : one.getDeclaredFields()) {
                fields += Modifier.isStatic(field.getModifiers()) ? 0 : 1;
            }
            Check.holds("at most twenty fields: " + one, fields <= 20);
            for (Method method : one.getDeclaredMethods()) {
                Check.holds("at most seven parameters: " + method, method.getParameterCount() <= 7);
            }
            // One that takes nothing can be handed nothing of an object that is being made.
            for (Constructor<?> constructor : one.getDeclaredConstructors()) {
                Check.due("parameters of " + constructor, constructor.getParameterCount(), 0);
            }
        }
    }

    private static void source() {
        String code;
        try {
            code = bare(Files.readString(SOURCE));
        } catch (IOException missing) {
            Check.holds("the source is read: " + missing, false);
            return;
        }
        for (String word : FORBIDDEN) {
            boolean there = Pattern.compile("\\b" + Pattern.quote(word) + "\\b").matcher(code).find();
            Check.holds("no " + word, !there);
        }
        Check.holds("no lambda", !code.contains("->"));
        Check.holds("no method reference", !code.contains("::"));
        Check.holds("signs 1 to 127", code.chars().allMatch(c -> c >= 1 && c <= 127));
        lengths(code);
        madeOnce(code);
    }

    /** The code without comments, and with empty texts. */
    private static String bare(String source) {
        return source.replaceAll("(?s)/\\*.*?\\*/", "").replaceAll("//[^\n]*", "").replaceAll("\"[^\"\n]*\"", "\"\"");
    }

    private static void lengths(String code) {
        Matcher head = Pattern.compile("\n( {4}| {8})[a-zA-Z][^;={}]*\\) \\{\n").matcher(code);
        int methods = 0;
        while (head.find()) {
            int end = code.indexOf("\n" + head.group(1) + "}", head.end() - 1);
            long lines = code.substring(head.start() + 1, end).chars().filter(c -> c == '\n').count() + 1;
            Check.holds("at most sixty lines: " + head.group().trim(), lines <= 60);
            methods++;
        }
        Check.holds("methods were seen", methods > 60);
    }

    /** All objects come from constructors or fields, so that a run of calls makes none. */
    private static void madeOnce(String code) {
        Matcher made = Pattern.compile("\\bnew \\w+").matcher(code);
        while (made.find()) {
            String before = code.substring(0, made.start());
            String line = before.substring(before.lastIndexOf('\n') + 1);
            Matcher head = Pattern.compile("\n(?: {4}| {8})[a-zA-Z][^;={}]*\\) \\{\n").matcher(before);
            String last = "";
            while (head.find()) {
                last = head.group().trim();
            }
            boolean constructor = last.matches("(public )?[A-Z]\\w*\\([^)]*\\) \\{");
            boolean field = line.matches(" {4,8}(private )?final [\\w\\[\\]]+ \\w+ = ");
            Check.holds("made once: " + line + made.group(), constructor || field);
        }
    }
}
