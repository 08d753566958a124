import java.io.IOException;
import java.lang.reflect.Constructor;
import java.lang.reflect.Field;
import java.lang.reflect.Method;
import java.lang.reflect.Modifier;
import java.nio.file.Files;
import java.nio.file.Path;
import java.util.ArrayList;
import java.util.List;
import java.util.Set;
import java.util.TreeSet;

/** What of ../shared/LANGUAGE.md can be seen from the source and the classes; the argument is the source. */
public final class LanguageTest {
    private static final Due due = new Due("LanguageTest");
    private static final String FACE = "row(int,int)int lay(int,int,int)int at(int,int)int tear(int)int "
            + "copy(int,int,int,int,int)int mean(int)int text(int,int)int put(int,int,int)int fault(int)int table(int)int "
            + "eater(int,int)int mark(int,int)int law(int)int pot(int)int need(int,int)int order(int)int begin(int)int "
            + "eat()int took(int)int left()int fed()int keep(int)int on(int)int evening(int)int place(int,int,int)int "
            + "favours(int,int)int least(int)int best(int,int)int most(int)int kind(int)int week(int,int,int)int "
            + "even(int,int)int two(int)int scales()int cheats()int bones(int)int last(int)int ahead(int,int,int)int "
            + "famine(int,int)int kindest(int,int)int kitchens(int,int,int,int)int asked()int upper()long lower()long "
            + "count(int)int finding()int findings(int)int digest()long";
    private static final String[] FORBIDDEN = {
        "\\b(throw|throws|try|catch|finally|synchronized|assert|package|import|volatile|transient|native)\\b",
        "->", "::", "\\bnew\\s+\\w+\\s*\\([^;]*\\)\\s*\\{", "\\bstatic\\s*\\{", "Exact\\b", "\\bhashCode\\b", "\\btoString\\b",
        "\\bequals\\b", "\\bRandom\\b", "currentTime", "nanoTime", "\\bThread\\b", "[^\\x00-\\x7f]", "\\bvar\\b",
    };

    public static void main(String[] args) throws IOException {
        String source = Files.readString(Path.of(args.length > 0 ? args[0] : "src/main/java/ThirdLeft.java"));
        face();
        classes();
        text(source);
        methodsAreShort(source);
        due.end();
    }

    private static void face() {
        Set<String> want = new TreeSet<>(List.of(FACE.split(" ")));
        Set<String> got = new TreeSet<>();
        for (Method m : ThirdLeft.class.getDeclaredMethods()) {
            if (!Modifier.isPrivate(m.getModifiers())) {
                got.add(signature(m));
                due.is(m.getName() + " is public alone", m.getModifiers(), Modifier.PUBLIC);
            }
        }
        due.is("the face is " + want + ", not " + got, want.equals(got) ? 1 : 0, 1);
        due.is("modifiers", ThirdLeft.class.getModifiers(), Modifier.PUBLIC | Modifier.FINAL);
        Constructor<?>[] constructors = ThirdLeft.class.getDeclaredConstructors();
        due.is("constructors", constructors.length, 1);
        due.is("the constructor is public", constructors[0].getModifiers(), Modifier.PUBLIC);
        Set<String> constants = new TreeSet<>();
        for (Field f : ThirdLeft.class.getDeclaredFields()) {
            if (!Modifier.isPrivate(f.getModifiers())) {
                constants.add(f.getName());
            }
        }
        due.is("constants " + constants, constants.equals(Set.of("BAD", "FULL", "FINDING", "STATE", "SPENT", "NONE")) ? 1 : 0, 1);
    }

    private static String signature(Method m) {
        List<String> types = new ArrayList<>();
        for (Class<?> type : m.getParameterTypes()) {
            types.add(type.getSimpleName());
        }
        return m.getName() + "(" + String.join(",", types) + ")" + m.getReturnType().getSimpleName();
    }

    private static void classes() {
        List<Class<?>> all = new ArrayList<>(List.of(ThirdLeft.class.getDeclaredClasses()));
        due.is("not too many classes", all.size() <= 11 ? 1 : 0, 1);
        for (Class<?> c : all) {
            due.is(c + " is static", Modifier.isStatic(c.getModifiers()) ? 1 : 0, 1);
            due.is(c + " has no class inside", c.getDeclaredClasses().length, 0);
        }
        all.add(ThirdLeft.class);
        Set<String> face = new TreeSet<>();
        for (String call : FACE.split(" ")) {
            face.add(call.substring(0, call.indexOf('(')));
        }
        for (Class<?> c : all) {
            int fields = 0;
            for (Field f : c.getDeclaredFields()) {
                boolean shared = Modifier.isStatic(f.getModifiers());
                due.is(f + " is final if static", shared && !Modifier.isFinal(f.getModifiers()) ? 1 : 0, 0);
                fields += shared ? 0 : 1;
            }
            due.is(c + " has not too many fields", fields <= 20 ? 1 : 0, 1);
            for (Method m : c.getDeclaredMethods()) {
                due.is(m + " takes seven at most", m.getParameterCount() <= 7 ? 1 : 0, 1);
                boolean named = face.contains(m.getName()) && !Modifier.isPublic(m.getModifiers());
                due.is(m + " has a name of its own", named ? 1 : 0, 0);
            }
        }
    }

    private static void text(String source) {
        String code = source.replaceAll("(?s)/\\*.*?\\*/", " ").replaceAll("//[^\n]*", " ");
        for (String forbidden : FORBIDDEN) {
            java.util.regex.Matcher found = java.util.regex.Pattern.compile(forbidden).matcher(code);
            due.is("no '" + forbidden + "'", found.find() ? 1 : 0, 0);
        }
    }

    private static void methodsAreShort(String source) {
        int begun = -1;
        String[] lines = source.split("\n");
        for (int i = 0; i < lines.length; i++) {
            String line = lines[i];
            if (line.matches(" {4}( {4})?\\S.*\\).*\\{") && !line.contains(" class ")) {
                begun = i;
            }
            if (begun >= 0 && line.matches(" {4}( {4})?\\}")) {
                due.is("line " + (begun + 1) + ": a method of sixty lines at most", i - begun <= 60 ? 1 : 0, 1);
            }
        }
    }
}
