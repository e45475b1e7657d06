import java.lang.management.ManagementFactory;
import java.lang.reflect.Constructor;
import java.lang.reflect.Field;
import java.lang.reflect.Method;
import java.lang.reflect.Modifier;
import java.nio.charset.StandardCharsets;
import java.nio.file.Files;
import java.nio.file.Path;
import java.util.Set;
import java.util.TreeSet;
import java.util.regex.Matcher;
import java.util.regex.Pattern;

/** The public face as the document has it, the rules of the language, and the room that calls take. */
final class FaceTest {
    private static final Set<String> STATICS = Set.of("int", "long", "boolean", "char", "String", "int[]", "long[]", "char[]", "byte[]");

    public static void main(String[] args) throws Exception {
        face(Files.readString(Path.of(System.getProperty("comesback.doc", "../shared/DOC.md"))));
        rules(Files.readString(Path.of(System.getProperty("comesback.source", "src/main/java/ComesBack.java")), StandardCharsets.US_ASCII));
        room();
        Check.end();
    }

    private static void face(String doc) {
        String block = doc.substring(doc.indexOf("```java"), doc.indexOf("}\n```"));
        Set<String> due = new TreeSet<>();
        Matcher m = Pattern.compile("public (int|long) (\\w+)\\(([^)]*)\\);").matcher(block);
        while (m.find()) {
            due.add(m.group(1) + " " + m.group(2) + "(" + m.group(3).replaceAll(" \\w+(,|$)", "$1").replaceAll("\\s", "") + ")");
        }
        Check.same("methods in the document", due.size(), 51);
        Set<String> have = new TreeSet<>(), names = new TreeSet<>();
        for (Method f : ComesBack.class.getDeclaredMethods()) {
            if (Modifier.isPrivate(f.getModifiers())) continue;
            Check.holds("public and of the object: " + f, f.getModifiers() == Modifier.PUBLIC);
            StringBuilder s = new StringBuilder(f.getReturnType() + " " + f.getName() + "(");
            for (Class<?> p : f.getParameterTypes()) s.append(s.charAt(s.length() - 1) == '(' ? "" : ",").append(p);
            have.add(s.append(")").toString());
            names.add(f.getName());
        }
        for (String s : due) Check.holds("the face has " + s, have.contains(s));
        for (String s : have) Check.holds("the document has " + s, due.contains(s));
        Check.holds("final", Modifier.isFinal(ComesBack.class.getModifiers()) && Modifier.isPublic(ComesBack.class.getModifiers()));
        for (Field f : ComesBack.class.getDeclaredFields()) {
            boolean told = Set.of("NONE", "BAD", "STATE", "FULL", "NO").contains(f.getName());
            Check.holds("field " + f, told ? Modifier.isPublic(f.getModifiers()) : Modifier.isPrivate(f.getModifiers()));
            if (Modifier.isStatic(f.getModifiers())) Check.holds("final " + f, Modifier.isFinal(f.getModifiers()) && STATICS.contains(f.getType().getSimpleName()));
        }
        Constructor<?>[] made = ComesBack.class.getDeclaredConstructors();
        Check.holds("one constructor", made.length == 1 && Modifier.isPublic(made[0].getModifiers()) && made[0].getParameterCount() == 0);
        Class<?>[] inside = ComesBack.class.getDeclaredClasses();
        Check.holds("some twelve classes", inside.length <= 11);
        for (Class<?> c : inside) {
            Check.holds("static and hidden: " + c, Modifier.isStatic(c.getModifiers()) && !Modifier.isPublic(c.getModifiers()) && !Modifier.isProtected(c.getModifiers()));
            int fields = 0;
            for (Field f : c.getDeclaredFields()) {
                if (Modifier.isStatic(f.getModifiers())) Check.holds("final " + f, Modifier.isFinal(f.getModifiers()) && STATICS.contains(f.getType().getSimpleName()));
                else fields++;
            }
            Check.holds("some twenty fields: " + c, fields <= 20);
            for (Method f : c.getDeclaredMethods()) Check.holds("bears no public name: " + f, !names.contains(f.getName()));
        }
        Check.same("NONE", ComesBack.NONE, -1);
        Check.same("BAD", ComesBack.BAD, -2);
        Check.same("STATE", ComesBack.STATE, -3);
        Check.same("FULL", ComesBack.FULL, -4);
        Check.same("NO", ComesBack.NO, -4611686018427387904L);
    }

    private static void rules(String source) {
        String code = source.replaceAll("(?s)/\\*.*?\\*/", "").replaceAll("//[^\n]*", "").replaceAll("\"[^\"]*\"", "\"\"");
        String[] banned = {"throw", "throws", "try", "catch", "finally", "synchronized", "assert", "import", "package", "protected", "transient", "volatile", "native",
            "var", "Object", "Thread", "Runtime", "random", "nanoTime", "currentTimeMillis", "equals", "hashCode", "toString", "Throwable", "Exception"};
        for (String word : banned) Check.holds("no " + word, !Pattern.compile("\\b" + word + "\\b").matcher(code).find());
        for (String sign : new String[] {"->", "::", "Exact("}) Check.holds("no " + sign, !code.contains(sign));
        Matcher used = Pattern.compile("\\b(Integer|Long|Math|System|Arrays|String|StringBuilder|List|Character|Boolean|Byte|Short|Double|Float|Objects)\\.(\\w+)").matcher(code);
        while (used.find()) {
            Check.holds("the library has " + used.group(), Set.of("bitCount", "abs", "floorMod", "floorDiv", "max", "min", "arraycopy", "compare").contains(used.group(2)));
        }
        Matcher m = Pattern.compile("\\n( +)(?:(?:public|private|static|final) )*[\\w\\[\\]]+(?: \\w+)?\\(([^)]*)\\) \\{\\n").matcher(code);
        int methods = 0;
        for (int at = 0; m.find(at); at = m.start(2)) {
            int end = code.indexOf("\n" + m.group(1) + "}", m.end() - 1);
            if (end < 0) continue;
            methods++;
            Check.holds("short: " + m.group().trim(), code.substring(m.start() + 1, end).split("\n").length <= 60);
            Check.holds("seven parameters: " + m.group().trim(), m.group(2).split(",").length <= 7);
        }
        Check.holds("methods were seen: " + methods, methods > 120);
    }

    /** The dearest calls make nothing anew, and an object is small: all calls of a run share one room. */
    private static void room() {
        com.sun.management.ThreadMXBean counter = (com.sun.management.ThreadMXBean) ManagementFactory.getThreadMXBean();
        World w = new World().stick(new int[] {1, 2, 3, 4}, new int[] {102, 2, 3, 4}, new int[] {203, 2, 3, 4}, new int[] {4, 2, 3, 4}, new int[] {5, 2, 3, 4}, new int[] {6, 2, 3, 4});
        for (int kind = 0; kind < 6; kind++) w.toss(kind, 0, 0, 20, 6, 12, 2);
        ComesBack x = w.build();
        long start = counter.getThreadAllocatedBytes(Thread.currentThread().getId());
        ComesBack made = new ComesBack();
        long one = counter.getThreadAllocatedBytes(Thread.currentThread().getId()) - start;
        Check.holds("an object takes " + one + " bytes", one < 16000 && made.count(0) == 0);
        start = counter.getThreadAllocatedBytes(Thread.currentThread().getId());
        for (int n = 0; n < 100; n++) {
            int i = n % 6;
            x.film(i, 0);
            x.apart(i, 0, 0);
            x.odds(i, 3, 3, 50, 0);
            x.best(i, 0);
            x.least(i, 5);
            x.paces(i, 50);
            x.which(i, 0, 1);
            x.exchange(i, 5);
            x.hitOdds(i, 3, 3, 1);
            x.drawn(i, n, 40, 50);
            x.want(1, 99);
            x.image();
            x.back();
            x.sheet(1, 2, 80);
            x.text();
        }
        long calls = counter.getThreadAllocatedBytes(Thread.currentThread().getId()) - start;
        Check.holds("1500 calls take " + calls + " bytes", calls < 20000);
    }
}
