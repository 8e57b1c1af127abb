import java.io.IOException;
import java.lang.management.ManagementFactory;
import java.lang.reflect.Constructor;
import java.lang.reflect.Field;
import java.lang.reflect.Method;
import java.lang.reflect.Modifier;
import java.nio.file.Files;
import java.nio.file.Path;
import java.util.Arrays;
import java.util.HashSet;
import java.util.List;
import java.util.Set;
import java.util.TreeSet;
import java.util.regex.Matcher;
import java.util.regex.Pattern;

/** What of ../shared/LANGUAGE.md can be told from the class and its text; run at the project's root. */
public final class LanguageTests {
    private static final List<String> FACE = List.of(
        "int set(int,int)", "int floor(int,int,int)", "int read()", "int clear()", "int dip(int,int,int,int,int)",
        "int takeOut(int)", "int drop(int,int,int)", "int probe(int,int)", "int pass(int)", "int cell(int,int,int)",
        "int dipper(int,int)", "int ofProbe(int,int)", "int seen(int,int)", "int count(int)", "int loudest(int)",
        "int crests(int)", "int ifPassed(int,int,int)", "int comes(int,int)", "int hush(int,int,int,int,int)",
        "int put(long)", "int wipe()", "int fault()", "int undo()", "int save(int)", "int restore(int)");
    private static final List<String> CONSTANTS = List.of(
        "NO_SUCH", "BAD_VALUE", "BAD_TEXT", "TOO_MANY", "NOT_POSSIBLE", "NONE", "RUB", "DEEP", "SHALLOW", "STILL");
    private static final List<String> FORBIDDEN = List.of(
        "throw", "try", "catch", "synchronized", "assert", "package", "record", "double", "float", "Object", "System\\.out",
        "\\w+Exact", "->", "::", "@\\w+", "toString", "hashCode", "volatile", "native", "transient", "strictfp", "var",
        "protected", "static \\{", "Random", "Thread", "Exception");

    public static void main(String[] args) throws IOException {
        face();
        classesInside();
        text(Files.readString(Path.of("src/main/java/DippedWaves.java")));
        room();
        Due.end("LanguageTests");
    }

    private static void face() {
        Due.part("rule 1");
        Class<?> c = DippedWaves.class;
        Due.due("public and final", Modifier.PUBLIC | Modifier.FINAL, c.getModifiers());
        Due.due("interfaces", 0, c.getInterfaces().length);
        Set<String> methods = new TreeSet<>();
        Set<String> publicNames = new HashSet<>();
        for (Method m : c.getDeclaredMethods()) {
            if (!Modifier.isPrivate(m.getModifiers())) {
                methods.add(spelt(m));
                publicNames.add(m.getName());
                Due.due(m.getName() + " is public alone", Modifier.PUBLIC, m.getModifiers());
            }
        }
        Due.holds("the methods are the document's: " + methods, methods.equals(new TreeSet<>(FACE)));
        Set<String> constants = new TreeSet<>();
        for (Field f : c.getDeclaredFields()) {
            if (!Modifier.isPrivate(f.getModifiers())) {
                constants.add(f.getName());
                Due.due(f.getName(), Modifier.PUBLIC | Modifier.STATIC | Modifier.FINAL, f.getModifiers());
                Due.holds(f.getName() + " is an int", f.getType() == int.class);
            }
        }
        Due.holds("the constants are the document's: " + constants, constants.equals(new TreeSet<>(CONSTANTS)));
        Constructor<?>[] constructors = c.getDeclaredConstructors();
        Due.due("constructors", 1, constructors.length);
        Due.due("its modifiers", Modifier.PUBLIC, constructors[0].getModifiers());
        Due.due("its parameters", 0, constructors[0].getParameterCount());
        noPrivateNamesake(c, publicNames);
        for (Class<?> inside : c.getDeclaredClasses()) {
            noPrivateNamesake(inside, publicNames);
        }
    }

    private static String spelt(Method m) {
        StringBuilder text = new StringBuilder(m.getReturnType().getName() + " " + m.getName() + "(");
        Class<?>[] types = m.getParameterTypes();
        for (int i = 0; i < types.length; i++) {
            text.append(i == 0 ? "" : ",").append(types[i].getName());
        }
        return text.append(")").toString();
    }

    private static void noPrivateNamesake(Class<?> c, Set<String> publicNames) {
        for (Method m : c.getDeclaredMethods()) {
            boolean ofTheFace = c == DippedWaves.class && Modifier.isPublic(m.getModifiers());
            Due.holds("no other " + m.getName(), ofTheFace || !publicNames.contains(m.getName()));
        }
    }

    private static void classesInside() {
        Due.part("rules 2, 5 and 11");
        Class<?>[] inside = DippedWaves.class.getDeclaredClasses();
        Due.holds("twelve classes at most", inside.length <= 11);
        for (Class<?> c : inside) {
            Due.holds(c.getName() + " is static", Modifier.isStatic(c.getModifiers()));
            Due.holds(c.getName() + " isn't public", !Modifier.isPublic(c.getModifiers()));
        }
        Class<?>[] all = Arrays.copyOf(inside, inside.length + 1);
        all[inside.length] = DippedWaves.class;
        for (Class<?> c : all) {
            int fields = 0;
            for (Field f : c.getDeclaredFields()) {
                boolean constant = Modifier.isStatic(f.getModifiers());
                fields += constant ? 0 : 1;
                Due.holds(f.getName() + ": static is final", !constant || Modifier.isFinal(f.getModifiers()));
            }
            Due.holds(c.getName() + " has twenty fields at most", fields <= 20);
            for (Method m : c.getDeclaredMethods()) {
                Due.holds(m.getName() + " takes seven at most", m.getParameterCount() <= 7);
            }
        }
    }

    private static void text(String source) {
        Due.part("rules 4, 6 and 11, the text");
        for (int i = 0; i < source.length(); i++) {
            Due.holds("sign " + i, source.charAt(i) < 127);
        }
        String bare = source.replaceAll("/\\*(?s:.*?)\\*/", "").replaceAll("\"[^\"\n]*\"|'[^'\n]*'", "0").replaceAll("//.*", "");
        for (String word : FORBIDDEN) {
            String edge = Character.isLetter(word.charAt(0)) ? "\\b" : "";
            Due.holds("no " + word, !Pattern.compile(edge + word + edge).matcher(bare).find());
        }
        Matcher imports = Pattern.compile("import ([^;]*);").matcher(bare);
        while (imports.find()) {
            Due.holds("import " + imports.group(1), imports.group(1).equals("java.util.Arrays"));
        }
        int opened = -1;
        String[] lines = source.split("\n");
        for (int i = 0; i < lines.length; i++) {
            if (lines[i].matches("( {4}| {8})[\\w\\[\\]].*\\(.*\\) \\{")) {
                opened = i;
            }
            if (opened >= 0 && lines[i].matches("( {4}| {8})\\}")) {
                Due.holds("sixty lines at most from line " + (opened + 1), i - opened < 60);
                opened = -1;
            }
        }
    }

    /** A whole run stays in its room, for no call but the constructor makes anything that lasts or adds up. */
    private static void room() {
        Due.part("rule 12");
        com.sun.management.ThreadMXBean bean = (com.sun.management.ThreadMXBean) ManagementFactory.getThreadMXBean();
        long id = Thread.currentThread().getId();
        bean.getThreadAllocatedBytes(id);
        DippedWaves w = new DippedWaves();
        everyCall(w);
        long before = bean.getThreadAllocatedBytes(id);
        for (int i = 0; i < 12; i++) {
            everyCall(w);
        }
        long bytes = bean.getThreadAllocatedBytes(id) - before;
        Due.holds("bytes for 12 times every call: " + bytes, bytes < 50000);
        before = bean.getThreadAllocatedBytes(id);
        w = new DippedWaves();
        bytes = bean.getThreadAllocatedBytes(id) - before;
        Due.holds("bytes for a new object: " + bytes, bytes < 50000);
    }

    private static int everyCall(DippedWaves w) {
        int sum = w.set(0, 5) + w.floor(1, 1, 1) + w.clear() + w.dip(2, 2, 40, 800, 3) + w.drop(4, 4, 300);
        sum += w.probe(5, 5) + w.pass(100) + w.cell(2, 2, 3) + w.dipper(0, 5) + w.ofProbe(0, 3) + w.seen(0, 3);
        for (int what = 0; what <= 14; what++) {
            sum += w.count(what);
        }
        sum += w.loudest(0) + w.crests(2) + w.ifPassed(3, 3, 60) + w.comes(9, 0) + w.hush(0, 3, 3, 30, 0);
        sum += w.put(0x2E2E2E2E2E2E2E2EL) + w.fault() + w.read() + w.wipe() + w.undo() + w.save(0) + w.restore(0);
        return sum;
    }
}
