import java.io.IOException;
import java.lang.management.ManagementFactory;
import java.lang.reflect.Constructor;
import java.lang.reflect.Field;
import java.lang.reflect.Method;
import java.lang.reflect.Modifier;
import java.nio.charset.StandardCharsets;
import java.nio.file.Files;
import java.nio.file.Path;
import java.util.ArrayList;
import java.util.Arrays;
import java.util.List;
import java.util.Set;
import java.util.TreeSet;
import java.util.regex.Matcher;
import java.util.regex.Pattern;

/** The document's face and what of LANGUAGE.md can be looked at from outside; no call makes an object. */
public final class LanguageTest {
    private static final Set<String> FACE = new TreeSet<>(List.of("write 1", "wipe 0", "fault 0", "lay 0", "post 2", "crew 2",
        "pull 1", "pass 1", "wind 2", "put 3", "smell 2", "take 1", "undo 0", "behind 2", "stands 0", "gale 1", "hold 0",
        "brings 3", "keeps 1", "instead 0", "seen 3", "forget 0", "may 2", "stowaway 1", "likely 3", "voyage 3", "keep 0",
        "back 0", "count 1"));
    private static final Due DUE = new Due("LanguageTest");

    public static void main(String[] args) throws IOException {
        face();
        constants();
        classesInside();
        source();
        room();
        DUE.end();
    }

    private static void yes(String what, boolean so) {
        DUE.due(what, 1, so ? 1 : 0);
    }

    private static void face() {
        Class<?> c = SmellMoorings.class;
        yes("public and final", Modifier.isPublic(c.getModifiers()) && Modifier.isFinal(c.getModifiers()));
        Constructor<?>[] made = c.getDeclaredConstructors();
        yes("one public constructor without numbers",
            made.length == 1 && Modifier.isPublic(made[0].getModifiers()) && made[0].getParameterCount() == 0);
        Set<String> seen = new TreeSet<>();
        Set<String> names = new TreeSet<>();
        for (String call : FACE) {
            names.add(call.substring(0, call.indexOf(' ')));
        }
        for (Method m : c.getDeclaredMethods()) {
            if (Modifier.isPrivate(m.getModifiers())) {
                yes(m.getName() + " bears no name of a public one", !names.contains(m.getName()));
            } else {
                seen.add(m.getName() + " " + m.getParameterCount());
                yes(m.getName() + " is public, no static one, of int alone", Modifier.isPublic(m.getModifiers())
                    && !Modifier.isStatic(m.getModifiers()) && m.getReturnType() == int.class
                    && Arrays.stream(m.getParameterTypes()).allMatch(t -> t == int.class));
            }
        }
        yes("the document's methods and no other", seen.equals(FACE));
    }

    private static void constants() {
        Set<String> seen = new TreeSet<>();
        for (Field f : SmellMoorings.class.getDeclaredFields()) {
            int m = f.getModifiers();
            if (!Modifier.isPrivate(m)) {
                seen.add(f.getName());
                yes(f.getName() + " is a constant", Modifier.isPublic(m) && Modifier.isStatic(m) && Modifier.isFinal(m));
            }
            yes(f.getName() + " is final", Modifier.isFinal(m));
        }
        yes("the document's constants and no other", seen.equals(Set.of("BAD", "NO", "NONE", "FULL")));
        DUE.due("BAD", -1, SmellMoorings.BAD);
        DUE.due("NO", -2, SmellMoorings.NO);
        DUE.due("FULL", -3, SmellMoorings.FULL);
        DUE.due("NONE", -4, SmellMoorings.NONE);
    }

    private static void classesInside() {
        Class<?>[] inside = SmellMoorings.class.getDeclaredClasses();
        yes("some twelve classes at most", inside.length < 12);
        for (Class<?> c : inside) {
            int m = c.getModifiers();
            yes(c.getName() + " is static", Modifier.isStatic(m) && !Modifier.isPublic(m) && !Modifier.isProtected(m));
            int fields = 0;
            for (Field f : c.getDeclaredFields()) {
                fields += Modifier.isStatic(f.getModifiers()) ? 0 : 1;
                yes(f.getName() + " is final, if static",
                    !Modifier.isStatic(f.getModifiers()) || Modifier.isFinal(f.getModifiers()));
            }
            yes(c.getName() + " has some twenty fields", fields <= 20);
        }
    }

    private static void source() throws IOException {
        byte[] bytes = Files.readAllBytes(Path.of("src/main/java/SmellMoorings.java"));
        for (byte b : bytes) {
            if (b > 126 || b < 32 && b != '\n') {
                DUE.due("signs of the source", 0, b);
            }
        }
        String text = new String(bytes, StandardCharsets.US_ASCII).replaceAll("(?s)/\\*.*?\\*/", "").replaceAll("//[^\n]*", "");
        String[] ruledOut = {"\\bthrow\\b", "\\bthrows\\b", "\\btry\\b", "\\bcatch\\b", "\\bsynchronized\\b", "\\bassert\\b",
            "->", "::", "Exact\\b", "\\bpackage\\b", "\\bprotected\\b", "static\\s*\\{", "\\bvar\\b", "\\bequals\\b",
            "\\bhashCode\\b", "\\btoString\\b", "\\bSystem\\.(?!arraycopy)", "\\bRandom\\b", "\\bThread\\b", "\\bwhile\\b"};
        for (String rule : ruledOut) {
            Matcher m = Pattern.compile(rule).matcher(text);
            yes("no " + rule + " in the source", !m.find());
        }
        Matcher imports = Pattern.compile("import ([^;]*);").matcher(text);
        while (imports.find()) {
            yes("import " + imports.group(1), imports.group(1).equals("java.util.Arrays"));
        }
        library(text);
        int line = 0;
        int open = 0;
        for (String l : text.split("\n")) {
            line++;
            if (l.matches("    (    )?\\S.*\\) \\{")) {
                open = line;
            }
            if (l.matches("    (    )?\\}") && open > 0) {
                yes("the method from line " + open + " is short", line - open <= 60);
                open = 0;
            }
        }
    }

    /** Of the library only what LANGUAGE.md lists and the class needs. */
    private static void library(String text) {
        Set<String> allowed = Set.of("Math.abs", "Math.max", "Math.min", "Integer.bitCount", "Arrays.fill", "System.arraycopy");
        Matcher called = Pattern.compile("\\b(Math|Integer|Long|Arrays|System|String|Character|Objects)\\.(\\w+)").matcher(text);
        while (called.find()) {
            yes(called.group(), allowed.contains(called.group()));
        }
        List<Class<?>> classes = new ArrayList<>(List.of(SmellMoorings.class.getDeclaredClasses()));
        classes.add(SmellMoorings.class);
        for (Class<?> c : classes) {
            for (Method m : c.getDeclaredMethods()) {
                yes(m.getName() + " has seven parameters at most", m.getParameterCount() <= 7);
            }
        }
    }

    /** The first round loads what the machine makes for itself; the second one is looked at. */
    private static void room() {
        com.sun.management.ThreadMXBean bean = (com.sun.management.ThreadMXBean) ManagementFactory.getThreadMXBean();
        SmellMoorings ship = new SmellMoorings();
        callAll(ship);
        long before = bean.getCurrentThreadAllocatedBytes();
        int answers = 0;
        for (int i = 0; i < 10; i++) {
            answers += callAll(ship);
        }
        long made = bean.getCurrentThreadAllocatedBytes() - before;
        yes("ten rounds of all calls make nothing, but made " + made + " bytes", made < 1000 && answers != 0);
    }

    private static int callAll(SmellMoorings s) {
        return s.wipe() + s.write('s') + s.fault() + s.lay() + s.post(0, 0) + s.crew(0, 4) + s.pull(2) + s.pass(1)
            + s.wind(2, 5) + s.put(0, 1, 5) + s.put(0, 1, 4) + s.smell(0, 3) + s.smell(0, 0) + s.take(1) + s.undo()
            + s.behind(40, 0) + s.stands() + s.gale(1) + s.hold() + s.brings(0, 8, 0) + s.keeps(1) + s.instead()
            + s.seen(4, 4, 2) + s.may(0, 0) + s.may(0, 1) + s.may(0, 2) + s.stowaway(1) + s.forget() + s.likely(7, 3, 0)
            + s.voyage(77, 60, 2) + s.keep() + s.back() + s.count(2);
    }
}
