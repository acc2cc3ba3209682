import java.io.IOException;
import java.lang.reflect.Field;
import java.lang.reflect.Member;
import java.lang.reflect.Method;
import java.lang.reflect.Modifier;
import java.nio.file.Files;
import java.nio.file.Path;
import java.util.Arrays;
import java.util.Set;
import java.util.TreeSet;
import java.util.regex.Matcher;
import java.util.regex.Pattern;
import java.util.stream.Collectors;

/** The face of the class is the document's and nothing else; what can be told of the language's rules by looking. */
public final class FaceTest {
    private static final String[] FACE = {
        "int row(int,int)", "int lay(int,int,int)", "int at(int,int)", "int tear(int)", "int copy(int,int,int,int,int)",
        "int mean(int)", "int text(int,int)", "int put(int,int,int)", "int fault(int,boolean)", "int slab(int,int)",
        "int plan(int,int)", "int about(int,int)", "int step(int,int)", "int dish(int,int)", "int go(int)", "int depth(int,int)",
        "int skin(int,int)", "int mark(int,int)", "int keep(int)", "int on(int)", "int just(int,int)", "int slice(int)",
        "int cut(int)", "int rise()", "int wire(int)", "int way(int,int,int,int)", "int often(int,int,int,int)",
        "int turns(int,int,int)", "int most(int,int,int,int)", "int off(int,int,int,int)", "int rest(int,int)",
        "int salt(int,int)", "int thick(int,int,int,int)", "int same(int,int,int,int,int,int)", "int order(int,int)",
        "int both(int,int,int,int,int)", "int safe(int,int)", "int which(int)", "int odds(int,int)", "int rule(int,int,int,int)",
        "int asked()", "long upper()", "long lower()", "int count(int)", "int finding()", "int findings(int)", "long digest()",
    };
    private static final String[] UNWANTED = {"throw", "try", "catch", "synchronized", "assert", "import", "package", "System.out",
        "->", "::", "java.", "static {", "Exact", "hashCode", "toString", "protected", "lambda"};
    /** What the class uses of the library; rule 4 has more. */
    private static final Set<String> LIBRARY = Set.of("Math.max", "Math.min", "Math.abs", "Integer.bitCount", "System.arraycopy");
    private static final Checks c = new Checks("FaceTest");

    public static void main(String[] args) throws Exception {
        constants();
        methods();
        fields();
        source();
        c.end();
    }

    private static void constants() throws ReflectiveOperationException {
        String[] names = {"BAD", "FULL", "FINDING", "STATE", "SPENT", "NONE"};
        int[] values = {-1, -2, -3, -4, -6, -9};
        Set<String> open = new TreeSet<>();
        for (Field f : SlabTurn.class.getDeclaredFields()) {
            if (!Modifier.isPrivate(f.getModifiers())) {
                open.add(f.getName());
            }
        }
        c.due("constants, no other open field: " + open, open.equals(new TreeSet<>(Arrays.asList(names))) ? 1 : 0, 1);
        for (int i = 0; i < names.length; i++) {
            Field f = SlabTurn.class.getField(names[i]);
            c.due(names[i], f.getInt(null), values[i]);
            c.due(names[i] + " is public, static, final", f.getModifiers(), Modifier.PUBLIC | Modifier.STATIC | Modifier.FINAL);
        }
        c.due("the class is public and final", SlabTurn.class.getModifiers(), Modifier.PUBLIC | Modifier.FINAL);
        c.due("one constructor", SlabTurn.class.getDeclaredConstructors().length, 1);
        c.due("a public one", SlabTurn.class.getDeclaredConstructor().getModifiers(), Modifier.PUBLIC);
    }

    private static String told(Method m) {
        String of = Arrays.stream(m.getParameterTypes()).map(Class::getName).collect(Collectors.joining(","));
        return m.getReturnType().getName() + " " + m.getName() + "(" + of + ")";
    }

    private static void methods() {
        Set<String> open = new TreeSet<>();
        Set<String> names = new TreeSet<>();
        for (Method m : SlabTurn.class.getDeclaredMethods()) {
            if (!Modifier.isPrivate(m.getModifiers())) {
                open.add(told(m));
                names.add(m.getName());
                c.due(m.getName() + " is public", m.getModifiers(), Modifier.PUBLIC);
            }
        }
        Set<String> due = new TreeSet<>(Arrays.asList(FACE));
        Set<String> missing = new TreeSet<>(due);
        missing.removeAll(open);
        open.removeAll(due);
        c.due("missing: " + missing, missing.size(), 0);
        c.due("too many: " + open, open.size(), 0);
        for (Class<?> of : classes()) {
            for (Method m : of.getDeclaredMethods()) {
                boolean own = of == SlabTurn.class && !Modifier.isPrivate(m.getModifiers());
                c.due(of.getName() + "." + m.getName() + " bears a public one's name", !own && names.contains(m.getName()) ? 1 : 0, 0);
                c.due(m.getName() + " takes too much", m.getParameterCount() > 7 ? 1 : 0, 0);
            }
        }
    }

    private static Set<Class<?>> classes() {
        Set<Class<?>> all = new java.util.LinkedHashSet<>(Arrays.asList(SlabTurn.class.getDeclaredClasses()));
        all.add(SlabTurn.class);
        return all;
    }

    private static void fields() {
        c.due("some twelve classes", classes().size() <= 12 ? 1 : 0, 1);
        for (Class<?> of : classes()) {
            long own = Arrays.stream(of.getDeclaredFields()).filter(f -> !isStatic(f)).count();
            c.due(of.getName() + ": some twenty fields, " + own, own <= 20 ? 1 : 0, 1);
            c.due(of.getName() + " is static", of == SlabTurn.class || Modifier.isStatic(of.getModifiers()) ? 1 : 0, 1);
            for (Field f : of.getDeclaredFields()) {
                c.due(f.getName() + ": static is final", isStatic(f) && !Modifier.isFinal(f.getModifiers()) ? 1 : 0, 0);
            }
        }
    }

    private static boolean isStatic(Member m) {
        return Modifier.isStatic(m.getModifiers());
    }

    private static void source() throws IOException {
        Path file = Path.of("src/main/java/SlabTurn.java");
        String source = Files.readString(file);
        String bare = source.replaceAll("(?s)/\\*.*?\\*/", "").replaceAll("//[^\n]*", "");
        for (String word : UNWANTED) {
            boolean isWord = word.chars().allMatch(Character::isLetter);
            boolean there = isWord ? bare.matches("(?s).*\\b" + word + "\\b.*") : bare.contains(word);
            c.due("the source holds " + word, there ? 1 : 0, 0);
        }
        for (Matcher used = Pattern.compile("\\b[A-Z][a-z]\\w*\\.\\w+").matcher(bare); used.find();) {
            c.due("the source uses " + used.group(), LIBRARY.contains(used.group()) ? 1 : 0, 1);
        }
        c.due("plain signs alone", source.chars().allMatch(s -> s == '\n' || s >= 32 && s < 127) ? 1 : 0, 1);
        int lines = 0;
        for (String line : source.split("\n")) {
            lines = line.matches("    (    )?[a-z].*[({]$") ? 0 : lines + 1;
            c.due("a method of more than sixty lines: " + line, lines > 62 ? 1 : 0, 0);
        }
    }
}
