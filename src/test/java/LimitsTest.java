import java.lang.reflect.Method;
import java.util.ArrayList;
import java.util.Arrays;
import java.util.Collections;
import java.util.List;

/**
 * Each argument of each call: the last values that are let in, at both ends, the first that are not, what answers them,
 * which of two refusals comes first, and that what is refused, and what is only asked, has changed nothing.
 */
final class LimitsTest {
    private static final int MIN = Integer.MIN_VALUE, MAX = Integer.MAX_VALUE;
    private static final long NONE = -1, BAD = -2, FULL = -4, NO_SUCH = -5, BAD_NUMBER = -7;
    private static final long NOTHING = -11, OUTSIDE = -12, OTHER_SORT = -13, BELOW_ZERO = -14, NO_VALUE = -1000000, NO = ComesBack.NO;

    /** An argument: as it is in a usual call, what else is let in, and what is refused, as {value, answer}. */
    private static final class Argument {
        final long usual;
        final long[] good;
        final List<long[]> bad = new ArrayList<>();

        Argument(long usual, long... good) {
            this.usual = usual;
            this.good = good;
        }

        Argument refuses(long answer, long... values) {
            for (long v : values) bad.add(new long[] {v, answer});
            return this;
        }
    }

    /** A call, its refusals in the document's order, and its arguments. */
    private static final class Row {
        final String name;
        final long[] refusals;
        final Argument[] arguments;

        Row(String name, long[] refusals, Argument... arguments) {
            this.name = name;
            this.refusals = refusals;
            this.arguments = arguments;
        }

        int rank(long refusal) {
            for (int k = 0; k < refusals.length; k++) if (refusals[k] == refusal) return k;
            return refusals.length;
        }

        long[] usual() {
            long[] a = new long[arguments.length];
            for (int k = 0; k < a.length; k++) a[k] = arguments[k].usual;
            return a;
        }
    }

    private static final List<Row> ROWS = rows();
    private static final List<Long> UNCHANGED = Probe.of(world());

    public static void main(String[] args) throws Exception {
        wholeFace();
        probeSees();
        for (Row row : ROWS) {
            letIn(row);
            refused(row);
            refusedTwice(row);
        }
        whichThrowDoesNotMatter();
        missingSheets();
        oddSheets();
        unlikeSheets();
        fullObject();
        takenPlaces();
        Check.end();
    }

    // ---- the table

    private static long[] order(long... refusals) {
        return refusals;
    }

    /** All from low to high are let in; asked are both ends, refused what is beyond them. */
    private static Argument between(long low, long high, long answer) {
        return new Argument(low, low, high).refuses(answer, low - 1, high + 1, MIN, MAX);
    }

    private static Argument stick(long answer) {
        return between(0, 2, answer).refuses(answer, 4);
    }

    private static Argument toss(long answer) {
        return between(0, 3, answer).refuses(answer, 8);
    }

    private static Argument piece(long answer) {
        return between(0, 1, answer).refuses(answer, 6);
    }

    private static Argument sheet(long answer) {
        return between(0, 3, answer);
    }

    private static Argument within(long answer) {
        return between(0, 99, answer);
    }

    private static List<Row> rows() {
        List<Row> all = new ArrayList<>();
        stickRows(all);
        flightRows(all);
        handRows(all);
        filmRows(all);
        parkRows(all);
        hostRows(all);
        return all;
    }

    private static void stickRows(List<Row> all) {
        Argument where = new Argument(110, 1, 20, 101, 120, 201, 220, 301, 320)
            .refuses(BAD, 0, 21, 99, 100, 121, 199, 200, 221, 299, 300, 321, 399, 400, 401, -1, -99, -100, -101, MIN, MAX);
        all.add(new Row("piece", order(NONE, BAD, FULL), stick(NONE), where, between(0, 20, BAD), between(0, 20, BAD), between(1, 20, BAD)));
        all.add(new Row("file", order(NO_SUCH, BAD_NUMBER), stick(NO_SUCH), piece(NO_SUCH), between(0, 2, BAD_NUMBER), new Argument(5, 1, 20).refuses(BAD_NUMBER, -1, 21, MIN, MAX)));
        for (int what = 0; what <= 2; what++) {
            Argument to = between(what == 2 ? 1 : 0, 20, BAD_NUMBER);
            all.add(new Row("file", order(NO_SUCH, BAD_NUMBER), stick(NO_SUCH), piece(NO_SUCH), new Argument(what), to));
        }
        all.add(new Row("pieceTold", order(NO_SUCH, BAD_NUMBER), stick(NO_SUCH), piece(NO_SUCH), between(0, 4, BAD_NUMBER)));
        all.add(new Row("stickTold", order(NO_SUCH, BAD_NUMBER), stick(NO_SUCH), between(0, 5, BAD_NUMBER)));
        all.add(new Row("wind", order(BAD), between(0, 9, BAD), between(0, 9, BAD)));
        Argument go = new Argument(1630, 1, 60, 101, 160, 3230, 6301, 6360)
            .refuses(BAD, 0, 61, 99, 100, 161, 6300, 6361, 6399, 6400, 6401, 6460, -1, -40, -99, -101, MIN, MAX);
        Argument hold = new Argument(1020, 0, 60, 100, 160, 1600, 1660)
            .refuses(BAD, 61, 99, 161, 1661, 1699, 1700, 1760, -1, -40, -100, -140, MIN, MAX);
        all.add(new Row("toss", order(BAD, FULL), between(0, 5, BAD), stick(BAD), go, hold, between(0, 20, BAD)));
        all.add(new Row("tossTold", order(NO_SUCH, BAD_NUMBER), toss(NO_SUCH), between(0, 7, BAD_NUMBER)));
        all.add(new Row("count", order(BAD), between(0, 5, BAD)));
        all.add(new Row("feed", order(BAD, FULL), new Argument(97, Long.MIN_VALUE, -1, 0, Long.MAX_VALUE), between(1, 8, BAD)));
        all.add(new Row("force", order(BAD), between(0, 1, BAD).refuses(BAD, 6)));
        all.add(new Row("stick", order(FULL)));
        all.add(new Row("text", order(FULL)));
    }

    private static void flightRows(List<Row> all) {
        all.add(new Row("tick", order(NO_VALUE), toss(NO_VALUE), between(0, 6, NO_VALUE).refuses(NO_VALUE, 40, 41), between(0, 6, NO_VALUE)));
        all.add(new Row("fly", order(NO_VALUE), toss(NO_VALUE), between(0, 6, NO_VALUE)));
        all.add(new Row("comes", order(NO_SUCH, BAD_NUMBER), toss(NO_SUCH), within(BAD_NUMBER)));
        all.add(new Row("lies", order(NO_SUCH), toss(NO_SUCH)));
        all.add(new Row("hovers", order(NO_SUCH), toss(NO_SUCH)));
        all.add(new Row("circle", order(NO_VALUE), toss(NO_VALUE), between(0, 3, NO_VALUE)));
        all.add(new Row("down", order(NO_SUCH, BAD_NUMBER), toss(NO_SUCH), between(0, 2, BAD_NUMBER)));
        all.add(new Row("why", order(NO_VALUE), toss(NO_VALUE), between(0, 6, NO_VALUE).refuses(NO_VALUE, 40, 41), between(0, 5, NO_VALUE)));
        all.add(new Row("room", order(NO_SUCH, BAD_NUMBER), toss(NO_SUCH), between(0, 4000, BAD_NUMBER), between(0, 999, BAD_NUMBER)));
        all.add(new Row("winds", order(NO_SUCH, BAD_NUMBER), toss(NO_SUCH), within(BAD_NUMBER)));
        all.add(new Row("paces", order(NO), toss(NO), within(NO)));
    }

    private static void handRows(List<Row> all) {
        all.add(new Row("odds", order(NO), toss(NO), between(0, 3, NO), between(0, 3, NO), within(NO), between(0, 1, NO)));
        all.add(new Row("mean", order(NO), toss(NO), between(0, 3, NO), between(0, 3, NO), between(0, 1, NO)));
        all.add(new Row("hitOdds", order(NO), toss(NO), between(0, 3, NO), between(0, 3, NO), between(0, 1, NO)));
        all.add(new Row("best", order(NO_SUCH, BAD_NUMBER), toss(NO_SUCH), between(0, 1, BAD_NUMBER)));
        for (String name : new String[] {"least", "mend", "exchange", "form"}) {
            all.add(new Row(name, order(NO_SUCH, BAD_NUMBER), toss(NO_SUCH), within(BAD_NUMBER)));
        }
        all.add(new Row("lead", order(NO_SUCH, BAD_NUMBER), toss(NO_SUCH), between(0, 1, BAD_NUMBER)));
    }

    private static void filmRows(List<Row> all) {
        all.add(new Row("judge", order(NO_SUCH, BAD, NOTHING), toss(NO_SUCH), sheet(BAD)));
        all.add(new Row("film", order(NO_SUCH, BAD), toss(NO_SUCH), sheet(BAD)));
        all.add(new Row("which", order(BAD_NUMBER, BAD, NOTHING), new Argument(0, -1, 4, MIN, MAX), sheet(BAD), new Argument(0).refuses(BAD_NUMBER, -1, 2, MIN, MAX)));
        all.add(new Row("which", order(NO_SUCH, BAD, NOTHING), toss(NO_SUCH), sheet(BAD), new Argument(1)));
        all.add(new Row("read", order(NO_SUCH, BAD, NOTHING), toss(NO_SUCH), piece(NO_SUCH), sheet(BAD)));
        all.add(new Row("apart", order(NO), toss(NO), sheet(NO), between(0, 1, NO)));
    }

    private static void parkRows(List<Row> all) {
        all.add(new Row("person", order(BAD, FULL), between(-4000, 4000, BAD), between(-4000, 4000, BAD)));
        all.add(new Row("walks", order(NONE, BAD), between(0, 1, NONE).refuses(NONE, 6), between(-4000, 4000, BAD), between(-4000, 4000, BAD)));
        all.add(new Row("hit", order(NO_SUCH), toss(NO_SUCH)));
        all.add(new Row("near", order(NO_SUCH, BAD_NUMBER), toss(NO_SUCH), toss(NO_SUCH), between(0, 1, BAD_NUMBER)));
        all.add(new Row("mirror", order(NO_VALUE), toss(NO_VALUE), between(0, 2, NO_VALUE)));
        all.add(new Row("drawn", order(NO_SUCH, BAD_NUMBER), toss(NO_SUCH), between(0, 99999, BAD_NUMBER), between(0, 40, BAD_NUMBER), within(BAD_NUMBER)));
        all.add(new Row("want", order(BAD), between(0, 1, BAD), within(BAD)));
        all.add(new Row("image", order()));
        all.add(new Row("back", order(ComesBack.STATE)));
    }

    /** Each sheet is of ints, 14 of them. */
    private static void hostRows(List<Row> all) {
        Argument sort = new Argument(2, -1, 0, 1, 2).refuses(BAD, -2, 3, MIN, MAX);
        Argument size = new Argument(4, 0, 80).refuses(BAD, 81, MAX).refuses(BELOW_ZERO, -1, MIN);
        all.add(new Row("sheet", order(BAD, BELOW_ZERO), sheet(BAD), sort, size));
        all.add(new Row("sheet", order(BAD), sheet(BAD), new Argument(-1), new Argument(0, MIN, -1, 81, MAX)));
        all.add(new Row("cell", order(BAD, NOTHING, OUTSIDE), sheet(BAD), between(0, 13, OUTSIDE), new Argument(77, MIN, -1, MAX)));
        Argument place = new Argument(2, 0, 10).refuses(OUTSIDE, -1, 11, 13, 14, 15, MIN, MAX);
        all.add(new Row("copy", order(BAD, NOTHING, OTHER_SORT, OUTSIDE), sheet(BAD), place, sheet(BAD), place, new Argument(4, 0, 12).refuses(OUTSIDE, -1, 13, 15, MIN, MAX)));
        all.add(new Row("copy", order(BAD, NOTHING, OTHER_SORT, OUTSIDE), sheet(BAD), new Argument(0), sheet(BAD), new Argument(0), new Argument(14, 0, 14).refuses(OUTSIDE, -1, 15)));
        all.add(new Row("copy", order(BAD, NOTHING, OTHER_SORT, OUTSIDE), sheet(BAD), between(0, 14, OUTSIDE), sheet(BAD), between(0, 14, OUTSIDE), new Argument(0)));
        Argument of = new Argument(2).refuses(BAD, -1, 3, MIN, MAX).refuses(OTHER_SORT, 0, 1);
        Argument at = new Argument(0, 12).refuses(OUTSIDE, -1, -2, 13, 14, 15, MIN, MAX);
        all.add(new Row("peopleBy", order(BAD, NOTHING, OTHER_SORT, OUTSIDE), sheet(BAD), of, at, new Argument(1).refuses(BAD, -1, 7, MIN, MAX)));
        all.add(new Row("peopleBy", order(BAD, NOTHING, OTHER_SORT, OUTSIDE), sheet(BAD), of, new Argument(0, 2), new Argument(6, 0, 6).refuses(BAD, -1, 7, MIN, MAX)));
        Argument kind = new Argument(0).refuses(BAD, -1, 7, MIN, MAX).refuses(OTHER_SORT, 1, 5);
        all.add(new Row("taken", order(BAD, OUTSIDE, NOTHING, OTHER_SORT), new Argument(4, 7).refuses(OUTSIDE, -1, 12, MIN, MAX).refuses(NOTHING, 3, 8, 11).refuses(OTHER_SORT, 0, 2), kind));
        all.add(new Row("taken", order(BAD, OUTSIDE, NOTHING, OTHER_SORT), new Argument(0, 2).refuses(OUTSIDE, -1, 12).refuses(NOTHING, 3, 8, 11).refuses(OTHER_SORT, 4, 7), new Argument(6)));
    }

    // ---- the objects

    /** Three sticks of two pieces, four throws of six ticks, two people, two texts, a tape, films on all sheets, an image that is another way. */
    private static ComesBack world() {
        World w = new World();
        for (int s = 0; s < 3; s++) w.stick(new int[] {110, 4, 3, 2}, new int[] {207, 6, 1, 5});
        w.toss(0, 0, 0, 10, 3, 4, 1).toss(0, 1, 16, 12, 6, 2, 2).toss(0, 2, 32, 14, 9, 0, 3).toss(0, 0, 48, 16, 0, 9, 4);
        w.person(22, 8).person(-30, 9).text("lift 0;turn 0;slow 0;").wind(1, 4);
        ComesBack x = w.build();
        x.image();
        for (int s = 0; s < 3; s++) {
            for (int p = 0; p < 2; p++) {
                for (int what = 0; what < 3; what++) x.file(s, p, what, 7 + s + p + what);
            }
        }
        x.walks(0, 10, 3);
        x.walks(1, 0, 35);
        x.wind(3, 2);
        for (int s = 0; s < 4; s++) x.film(s, s);
        World.feed(x, "lift 7;turn 5;sl");
        return x;
    }

    /** As many of all as there may be, and no sheet. */
    private static ComesBack fullWorld() {
        World w = new World();
        for (int s = 0; s < 4; s++) {
            w.stick(new int[] {110, 4, 3, 2}, new int[] {110, 4, 3, 2}, new int[] {110, 4, 3, 2}, new int[] {110, 4, 3, 2}, new int[] {110, 4, 3, 2}, new int[] {110, 4, 3, 2});
        }
        for (int i = 0; i < 8; i++) w.toss(0, 0, i, 10, 3, 4, 1);
        for (int p = 0; p < 6; p++) w.person(10 * p, 0);
        for (int t = 1; t < 6; t++) w.text("lift 0;turn 0;slow " + t + ";");
        ComesBack x = w.build();
        World.feed(x, "lift ?".repeat(30).substring(0, 160));
        return x;
    }

    private static Method method(String name) {
        for (Method m : ComesBack.class.getDeclaredMethods()) {
            if (m.getName().equals(name) && java.lang.reflect.Modifier.isPublic(m.getModifiers())) return m;
        }
        throw new IllegalStateException(name);
    }

    private static long call(ComesBack x, String name, long... a) throws Exception {
        Method m = method(name);
        Object[] boxed = new Object[a.length];
        for (int k = 0; k < a.length; k++) boxed[k] = m.getParameterTypes()[k] == long.class ? (Object) a[k] : (Object) (int) a[k];
        return ((Number) m.invoke(x, boxed)).longValue();
    }

    private static long[] with(long[] usual, int k, long v) {
        long[] a = usual.clone();
        a[k] = v;
        return a;
    }

    // ---- what is tested

    private static void wholeFace() {
        List<String> missing = new ArrayList<>();
        for (Method m : ComesBack.class.getDeclaredMethods()) {
            if (!java.lang.reflect.Modifier.isPublic(m.getModifiers())) continue;
            boolean there = false;
            for (Row row : ROWS) there |= row.name.equals(m.getName()) && row.arguments.length == m.getParameterCount();
            if (!there) missing.add(m.getName());
        }
        Collections.sort(missing);
        Check.holds("all calls stand in the table, but " + missing, missing.isEmpty());
    }

    /** That nothing was changed would say little if the probe did not see changes. */
    private static void probeSees() throws Exception {
        Check.holds("alike objects are alike", Probe.of(world()).equals(UNCHANGED));
        long[][] files = {{0, 0, 0, 1}, {0, 1, 1, 1}, {1, 0, 2, 1}, {2, 1, 2, 19}};
        for (long[] f : files) changes("file", f);
        changes("stick");
        changes("piece", 0, 110, 4, 5, 6);
        changes("wind", 3, 3);
        changes("wind", 2, 2);
        changes("toss", 0, 0, 1630, 1020, 0);
        changes("feed", 32, 1);
        changes("text");
        changes("force", 0);
        changes("mend", 2, 99);
        for (int s = 0; s < 4; s++) {
            changes("film", (s + 1) % 4, s);
            changes("sheet", s, 2, 14);
            changes("sheet", s, -1, 0);
            for (int i = 2; i < 14; i++) changes("cell", s, i, 999);
            changes("copy", s, 3, (s + 1) % 4, 2, 2);
        }
        changes("person", 0, 0);
        changes("walks", 0, 4000, 0);
        changes("peopleBy", 0, 2, 0, 1);
        changes("image");
        changes("back");
    }

    private static void changes(String name, long... a) throws Exception {
        ComesBack x = world();
        call(x, name, a);
        Check.holds("the probe sees " + name + Arrays.toString(a), !Probe.of(x).equals(UNCHANGED));
    }

    private static void letIn(Row row) throws Exception {
        accepted(row, row.usual());
        for (int k = 0; k < row.arguments.length; k++) {
            for (long v : row.arguments[k].good) accepted(row, with(row.usual(), k, v));
        }
    }

    private static void accepted(Row row, long[] a) throws Exception {
        ComesBack x = world();
        long answer = call(x, row.name, a);
        boolean refused = false;
        for (long r : row.refusals) refused |= answer == r;
        Check.holds(row.name + Arrays.toString(a) + " is let in, and answered " + answer, !refused);
        if (!Probe.CHANGING.contains(row.name)) Check.holds(row.name + Arrays.toString(a) + " was asked, and changed nothing", Probe.of(x).equals(UNCHANGED));
    }

    private static void refused(Row row) throws Exception {
        for (int k = 0; k < row.arguments.length; k++) {
            for (long[] bad : row.arguments[k].bad) refused(row, with(row.usual(), k, bad[0]), bad[1]);
        }
    }

    /** Of any two refusals the one comes that the document tells first. */
    private static void refusedTwice(Row row) throws Exception {
        for (int k = 0; k < row.arguments.length; k++) {
            for (int l = k + 1; l < row.arguments.length; l++) {
                for (long[] one : row.arguments[k].bad) {
                    for (long[] other : row.arguments[l].bad) {
                        long due = row.rank(one[1]) <= row.rank(other[1]) ? one[1] : other[1];
                        long[] a = with(with(row.usual(), k, one[0]), l, other[0]);
                        Check.same(row.name + Arrays.toString(a), call(world(), row.name, a), due);
                    }
                }
            }
        }
    }

    private static void refused(Row row, long[] a, long due) throws Exception {
        ComesBack x = world();
        Check.same(row.name + Arrays.toString(a), call(x, row.name, a), due);
        Check.holds(row.name + Arrays.toString(a) + " changed nothing", Probe.of(x).equals(UNCHANGED));
    }

    private static void whichThrowDoesNotMatter() {
        Check.sentence("-5: no such THROW (what 1); -7: what; BAD, -11, BAD as of judge().");
        ComesBack x = world();
        for (int i : new int[] {-1, 4, MIN, MAX}) {
            Check.same("no such THROW, what 1", x.which(i, 0, 1), NO_SUCH);
            Check.same("no such THROW ahead of the SHEET", x.which(i, 4, 1), NO_SUCH);
            Check.same("no such THROW, what 0", x.which(i, 0, 0), 1);
            Check.same("no such THROW, what 0, no SHEET", x.which(i, 4, 0), BAD);
            for (int what : new int[] {-1, 2}) {
                Check.same("no such THROW, what " + what, x.which(i, 0, what), BAD_NUMBER);
                Check.same("no such THROW, no SHEET, what " + what, x.which(i, 4, what), BAD_NUMBER);
            }
        }
    }

    /** All calls that ask for a sheet, where it is missing: what the document tells ahead of -11 comes first, nothing else. */
    private static void missingSheets() throws Exception {
        for (Row row : ROWS) {
            if (row.rank(NOTHING) == row.refusals.length || row.name.equals("taken")) continue;
            missing(row, row.usual(), NOTHING);
            for (int k = 0; k < row.arguments.length; k++) {
                for (long[] bad : row.arguments[k].bad) {
                    missing(row, with(row.usual(), k, bad[0]), row.rank(bad[1]) < row.rank(NOTHING) ? bad[1] : NOTHING);
                }
            }
        }
        missing(new Row("apart", order(NO)), new long[] {0, 0, 0}, NO);
        ComesBack x = missingWorld();
        Check.same("a film of a missing sheet", x.film(0, 0), 7);
        Check.same("copy from one to a missing one", x.copy(0, 0, 1, 0, 1), NOTHING);
        Check.same("copy from a missing one", x.copy(1, 0, 0, 0, 1), NOTHING);
        Check.same("copy from a missing one, outside", x.copy(1, -1, 0, 99, -5), NOTHING);
    }

    private static ComesBack missingWorld() {
        ComesBack x = world();
        for (int s = 0; s < 4; s++) x.sheet(s, -1, 0);
        return x;
    }

    private static void missing(Row row, long[] a, long due) throws Exception {
        ComesBack x = missingWorld();
        Check.same(row.name + Arrays.toString(a) + " by missing sheets", call(x, row.name, a), due);
        Check.holds(row.name + Arrays.toString(a) + " changed nothing", Probe.of(x).equals(Probe.of(missingWorld())));
    }

    private static void oddSheets() throws Exception {
        Check.sentence("-5: no such THROW; BAD: SHEET; -11; BAD: its size is odd.");
        for (int n : new int[] {1, 3, 13, 79}) {
            for (int sort = 0; sort < 3; sort++) {
                ComesBack x = world(), same = world();
                x.sheet(1, sort, n);
                same.sheet(1, sort, n);
                Check.same("judge by " + n, x.judge(0, 1), BAD);
                Check.same("judge by " + n + ", no THROW", x.judge(4, 1), NO_SUCH);
                Check.same("which by " + n, x.which(0, 1, 0), BAD);
                Check.same("which law by " + n, x.which(0, 1, 1), BAD);
                Check.same("which law by " + n + ", no THROW", x.which(4, 1, 1), NO_SUCH);
                Check.same("which by " + n + ", what 2", x.which(0, 1, 2), BAD_NUMBER);
                Check.same("read by " + n, x.read(0, 0, 1), BAD);
                Check.same("read by " + n + ", no PIECE", x.read(0, 2, 1), NO_SUCH);
                Check.same("apart by " + n, x.apart(0, 1, 0), NO);
                Check.holds("nothing changed", Probe.of(x).equals(Probe.of(same)));
                x.sheet(1, sort, n + 1);
                Check.holds("an even size is well", x.judge(0, 1) != BAD && x.which(0, 1, 0) != BAD && x.read(0, 0, 1) != BAD && x.apart(0, 1, 0) != NO);
            }
        }
    }

    private static void unlikeSheets() {
        Check.sentence("BAD: SHEETS; -11; -13: unlike sorts; -12 (n below 0, too).");
        for (int one = 0; one < 3; one++) {
            for (int other = 0; other < 3; other++) {
                ComesBack x = world();
                x.sheet(1, one, 4);
                x.sheet(2, other, 4);
                long due = one == other ? 0 : OTHER_SORT;
                Check.same("copy of none from sort " + one + " to " + other, x.copy(1, 0, 2, 0, 0), due);
                Check.same("copy from sort " + one + " to " + other + ", outside", x.copy(1, 0, 2, 0, 5), due == 0 ? OUTSIDE : due);
                Check.same("copy from sort " + one + " to " + other + ", of -1", x.copy(1, 0, 2, 0, -1), due == 0 ? OUTSIDE : due);
                Check.same("copy from sort " + one + " to " + other + ", no SHEET", x.copy(1, 0, 4, 0, 0), BAD);
                Check.same("people by sort " + one + " as " + other, x.peopleBy(1, other, 0, 0), due);
            }
        }
    }

    /** Where there is no more room: BAD and NONE come first, and nothing has changed. */
    private static void fullObject() throws Exception {
        List<Long> unchanged = Probe.of(fullWorld());
        for (Row row : ROWS) {
            if (row.rank(FULL) == row.refusals.length) continue;
            full(row, row.usual(), FULL, unchanged);
            for (int k = 0; k < row.arguments.length; k++) {
                for (long v : row.arguments[k].good) full(row, with(row.usual(), k, v), FULL, unchanged);
                for (long[] bad : row.arguments[k].bad) {
                    // all four sticks are there
                    boolean isStick = bad[0] == 3 && (row.name.equals("piece") && k == 0 || row.name.equals("toss") && k == 1);
                    full(row, with(row.usual(), k, bad[0]), isStick ? FULL : bad[1], unchanged);
                }
            }
        }
    }

    private static void full(Row row, long[] a, long due, List<Long> unchanged) throws Exception {
        ComesBack x = fullWorld();
        Check.same(row.name + Arrays.toString(a) + " of a full object", call(x, row.name, a), due);
        Check.holds(row.name + Arrays.toString(a) + " changed nothing", Probe.of(x).equals(unchanged));
    }

    private static void takenPlaces() {
        Check.sentence("What lies at place i: 0 .. 3 STICKS, 4 .. 11 THROWS");
        ComesBack x = fullWorld(), none = new ComesBack();
        for (int i = 0; i <= 11; i++) {
            Check.same("a full object's place " + i + " as a stick", x.taken(i, 6), i <= 3 ? 6 : OTHER_SORT);
            Check.same("a full object's place " + i + " as a throw", x.taken(i, 0), i <= 3 ? OTHER_SORT : i - 4);
            for (int kind = 0; kind <= 6; kind++) Check.same("a new object's place " + i, none.taken(i, kind), NOTHING);
        }
        for (int i : new int[] {-1, 12}) Check.same("a full object's place " + i, x.taken(i, 0), OUTSIDE);
    }
}
