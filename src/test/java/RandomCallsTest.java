import java.lang.reflect.InvocationTargetException;
import java.lang.reflect.Method;
import java.util.ArrayList;
import java.util.Arrays;
import java.util.Comparator;
import java.util.List;
import java.util.Random;

/** Random runs: no call throws, what is asked changes nothing, and what is refused changes nothing. */
final class RandomCallsTest {
    private static final long[] EDGES = {Integer.MIN_VALUE, Integer.MAX_VALUE, -1, 0, 1, 99, 100, 101, 4000, 4001, 1000000, -4000, Integer.MAX_VALUE - 1};
    private static final Method[] FACE = face();

    private static int accepted, refused;

    public static void main(String[] args) throws Exception {
        Random any = new Random(61);
        for (int run = 0; run < 600; run++) run(any);
        Check.holds("calls were accepted: " + accepted + ", refused: " + refused, accepted > 10000 && refused > 10000);
        Check.end();
    }

    private static Method[] face() {
        List<Method> all = new ArrayList<>();
        for (Method m : ComesBack.class.getDeclaredMethods()) if (java.lang.reflect.Modifier.isPublic(m.getModifiers())) all.add(m);
        all.sort(Comparator.comparing(Method::getName));
        return all.toArray(new Method[0]);
    }

    private static long call(ComesBack x, Method m, Object[] a) throws IllegalAccessException {
        try {
            return ((Number) m.invoke(x, a)).longValue();
        } catch (InvocationTargetException e) {
            Check.holds(m.getName() + Arrays.toString(a) + " threw " + e.getCause(), false);
            return 0;
        }
    }

    /** Three objects: one gets all calls, one only those that change, one only those of them that are not refused. */
    private static void run(Random any) throws IllegalAccessException {
        World w = any.nextInt(5) == 0 ? new World() : World.random(any);
        ComesBack all = w.build(), changing = w.build(), kept = w.build();
        for (int n = 0; n < 300; n++) {
            Method m = FACE[any.nextInt(FACE.length)];
            if (m.getName().equals("feed") && any.nextInt(4) != 0) {
                String t = any.nextBoolean() ? "lift 1;turn 8;slow 0;" : "lift 0-1;turn 7+stick;slow x;";
                World.feed(all, t);
                World.feed(changing, t);
                World.feed(kept, t);
                continue;
            }
            Object[] a = arguments(any, m);
            long answer = call(all, m, a);
            boolean no = answer < 0;
            if (no) refused++;
            else accepted++;
            if (!Probe.CHANGING.contains(m.getName())) continue;
            String told = m.getName() + Arrays.toString(a);
            Check.same(told + " without what is asked", call(changing, m, a), answer);
            // a fault empties the tape, and people come till a place is outside
            boolean changes = !no || m.getName().equals("text") && answer <= -100 || m.getName().equals("peopleBy") && answer == -12;
            if (changes) Check.same(told + " without what is refused", call(kept, m, a), answer);
        }
        for (int n = 0; n < 400; n++) {
            Method m = FACE[any.nextInt(FACE.length)];
            if (Probe.CHANGING.contains(m.getName())) continue;
            Object[] a = arguments(any, m);
            long answer = call(all, m, a);
            String told = m.getName() + Arrays.toString(a);
            Check.same(told + " at the end, without what is asked", call(changing, m, a), answer);
            Check.same(told + " at the end, without what is refused", call(kept, m, a), answer);
        }
    }

    private static Object[] arguments(Random any, Method m) {
        Class<?>[] types = m.getParameterTypes();
        Object[] a = new Object[types.length];
        int[][] ranges = ranges(m.getName());
        for (int k = 0; k < a.length; k++) {
            long v;
            if (types[k] == long.class) v = any.nextLong();
            else if (any.nextInt(60) == 0) v = EDGES[any.nextInt(EDGES.length)];
            else if (any.nextInt(12) == 0) v = any.nextBoolean() ? ranges[k][0] - 1 : ranges[k][1] + 1;
            else v = ranges[k][0] + any.nextInt(ranges[k][1] - ranges[k][0] + 1);
            a[k] = types[k] == long.class ? (Object) v : (Object) (int) v;
        }
        return a;
    }

    private static int[][] ranges(String name) {
        int[] toss = {0, 3}, stick = {0, 2}, piece = {0, 3}, sheet = {0, 3}, r = {0, 99}, w = {0, 3}, part = {0, 1};
        switch (name) {
            case "piece": return new int[][] {stick, {1, 20}, {0, 20}, {0, 20}, {1, 20}};
            case "file": return new int[][] {stick, piece, {0, 2}, {1, 20}};
            case "pieceTold": return new int[][] {stick, piece, {0, 4}};
            case "stickTold": return new int[][] {stick, {0, 5}};
            case "wind": return new int[][] {{0, 9}, {0, 9}};
            case "toss": return new int[][] {{0, 5}, stick, {1, 60}, {0, 60}, {0, 20}};
            case "tossTold": return new int[][] {toss, {0, 7}};
            case "count": return new int[][] {{0, 5}};
            case "feed": return new int[][] {{0, 0}, {1, 8}};
            case "force": return new int[][] {{0, 3}};
            case "tick": return new int[][] {toss, {0, 40}, {0, 6}};
            case "fly": return new int[][] {toss, {0, 6}};
            case "lies": case "hovers": case "hit": return new int[][] {toss};
            case "circle": return new int[][] {toss, {0, 3}};
            case "down": return new int[][] {toss, {0, 2}};
            case "why": return new int[][] {toss, {0, 40}, {0, 5}};
            case "room": return new int[][] {toss, {0, 99}, {0, 50}};
            case "odds": return new int[][] {toss, w, w, r, part};
            case "mean": case "hitOdds": return new int[][] {toss, w, w, part};
            case "best": case "lead": return new int[][] {toss, part};
            case "judge": case "film": return new int[][] {toss, sheet};
            case "which": return new int[][] {toss, sheet, part};
            case "read": return new int[][] {toss, piece, sheet};
            case "apart": return new int[][] {toss, sheet, part};
            case "person": return new int[][] {{-30, 30}, {-30, 30}};
            case "walks": return new int[][] {{0, 4}, {-30, 30}, {-30, 30}};
            case "near": return new int[][] {toss, toss, part};
            case "mirror": return new int[][] {toss, {0, 2}};
            case "drawn": return new int[][] {toss, {0, 99999}, {0, 40}, r};
            case "want": return new int[][] {part, r};
            case "sheet": return new int[][] {sheet, {-1, 2}, {0, 80}};
            case "cell": return new int[][] {sheet, {0, 40}, {-70, 70}};
            case "copy": return new int[][] {sheet, {0, 20}, sheet, {0, 20}, {0, 20}};
            case "peopleBy": return new int[][] {sheet, {0, 2}, {0, 20}, {0, 6}};
            case "taken": return new int[][] {{0, 11}, {0, 6}};
            default: return new int[][] {toss, r, r, r, r};
        }
    }
}
