import java.util.List;
import java.util.Random;

/** Promises 14 to 24: flights and what is told of them. */
final class FlightsTest {
    private static final int NO_VALUE = -1000000;
    private static final PlainFlight FIRST = new PlainFlight(
        (speed, spin, tilt, high, stick, wind) -> tilt - 6 + stick,
        (speed, spin, tilt, high, stick, wind) -> 2 + (spin < 10 ? 1 : 0),
        (speed, spin, tilt, high, stick, wind) -> 1 + stick);
    private static final String WILD_TEXT = "lift 12*(spin=9)-stick+(high<9)*5;turn 9-tilt*stick-wind*(speed<7);slow (speed-40)*stick;";
    private static final PlainFlight WILD = new PlainFlight(
        (speed, spin, tilt, high, stick, wind) -> 12 * (spin == 9 ? 1 : 0) - stick + (high < 9 ? 1 : 0) * 5,
        (speed, spin, tilt, high, stick, wind) -> 9 - tilt * stick - wind * (speed < 7 ? 1 : 0),
        (speed, spin, tilt, high, stick, wind) -> (speed - 40) * stick);

    public static void main(String[] args) {
        straight();
        downAndUp();
        wind();
        kinds();
        bounds();
        againstPlain();
        refusals();
        windsAndPaces();
        Check.end();
    }

    /** Way 0, pace 10, no turn, no lift: 1 lower and 10 further at each tick. */
    private static World plain() {
        return new World().stick().toss(0, 0, 0, 10, 1, 2, 0).text("lift 0;turn 0;slow 0;");
    }

    private static void straight() {
        ComesBack x = plain().build();
        for (int k = 0; k <= 6; k++) {
            int[] due = {10 * k, 0, 6 - k, 0, 10, Math.max(0, 2 - k), k < 3 ? 1 : 0};
            for (int what = 0; what < 7; what++) Check.same("tick " + k + ", " + what, x.tick(0, k, what), due[what]);
        }
        Check.same("tick behind the last", x.tick(0, 7, 0), NO_VALUE);
        int[] fly = {6, 60, 0, 6, 3600, 1, 3600};
        for (int what = 0; what < 7; what++) Check.same("fly " + what, x.fly(0, what), fly[what]);
        Check.same("comes within 59", x.comes(0, 59), 0);
        Check.same("comes within 60", x.comes(0, 60), 1);
        Check.same("lies", x.lies(0), 3);
        Check.same("hovers", x.hovers(0), 0);
        int[] circle = {60, 0, 0, 0};
        for (int what = 0; what < 4; what++) Check.same("circle " + what, x.circle(0, what), circle[what]);
        int[] down = {0, -1, 1};
        for (int what = 0; what < 3; what++) Check.same("down " + what, x.down(0, what), down[what]);
        Check.same("room of 60", x.room(0, 60, 6), -1);
        Check.same("room of 59", x.room(0, 59, 6), 6);
        Check.same("room of 25", x.room(0, 25, 6), 3);
        Check.same("room, low", x.room(0, 4000, 5), 0);
        Check.same("room, widest", x.room(0, 4000, 999), -1);
        Check.same("why, at the last", x.why(0, 6, 3), 0);
        Check.same("why, behind the last", x.why(0, 7, 3), NO_VALUE);
    }

    /** Heights told by the law alone: 1 more thrice, level twice, then down by 3. */
    private static void downAndUp() {
        ComesBack x = new World().stick().toss(0, 0, 32, 4, 0, 20, 0)
            .text("lift 2*(17<spin)+(15<spin)*(spin<18)-2*(spin<16);turn 0-8;slow 0;").build();
        // spin 20 19 18: up 2, 17 16: up 1, 15 and less: up -2
        int[] heights = {6, 7, 8, 9, 9, 9, 6, 3, 0};
        for (int k = 0; k < heights.length; k++) Check.same("height " + k, x.tick(0, k, 2), heights[k]);
        Check.same("ticks", x.fly(0, 0), 8);
        Check.same("greatest height", x.fly(0, 3), 9);
        Check.same("hovers", x.hovers(0), 2);
        Check.same("first highest", x.down(0, 0), 3);
        Check.same("last climb", x.down(0, 1), 3);
        Check.same("deepest drop", x.down(0, 2), 3);
        Check.same("turned", x.circle(0, 2), -64);
        Check.same("turned round", x.circle(0, 3), -1);
        Check.same("way at the end", x.tick(0, 8, 3), 32);
        Check.same("way at 5", x.tick(0, 5, 3), (32 - 40 + 64) % 64);
        Check.same("lies at once", x.lies(0), 0);
        Check.same("too high at", x.room(0, 4000, 8), 3);
        // one climb, then level at 1: up 1 at the first tick (spin 1), then down, then level
        ComesBack low = new World().stick().toss(0, 0, 0, 1, 0, 1, 0).text("lift 2*(spin=1)-2*(1<high)*(spin<1)+(high<2);turn 0;slow 0;").build();
        int[] lowHeights = {6, 7, 4, 1, 1, 1};
        for (int k = 0; k < lowHeights.length; k++) Check.same("low height " + k, low.tick(0, k, 2), lowHeights[k]);
        Check.same("hovers at 1", low.hovers(0), 37);
        Check.same("last climb at 1", low.down(0, 1), 1);
        ComesBack never = new World().stick().toss(0, 0, 0, 1, 16, 0, 0).text("lift 0;turn 1;slow 0;").build();
        Check.same("never lies down", never.lies(0), -1);
        ComesBack grounded = new World().stick().toss(0, 0, 0, 1, 0, 0, 0).text("lift 0-9;turn 0-5;slow 0;").build();
        Check.same("height is 0 at least", grounded.tick(0, 1, 2), 0);
        Check.same("down at once", grounded.fly(0, 0), 1);
        Check.same("less than a round", grounded.circle(0, 3), 0);
        Check.same("level on the ground does not hover", grounded.hovers(0), 0);
        // up by ones for 17 ticks, down by ones for 23: down at tick 40 just so; with a greater snap not
        String upAndDown = "lift (20<spin)*2;turn 8;slow 0;";
        ComesBack last = new World().stick().toss(0, 0, 0, 1, 0, 37, 0).toss(0, 0, 0, 1, 0, 38, 0).text(upAndDown).build();
        Check.same("height at 17", last.tick(0, 17, 2), 23);
        Check.same("forty ticks", last.fly(0, 0), 40);
        Check.same("down at 40", last.fly(0, 5), 1);
        Check.same("comes back at 40", last.comes(0, 99), 1);
        Check.same("forty ticks, too", last.fly(1, 0), 40);
        Check.same("height at 40", last.tick(1, 40, 2), 2);
        Check.same("not down at 40", last.fly(1, 5), 0);
        Check.same("no 41st tick", last.tick(1, 41, 2), NO_VALUE);
        Check.same("does not come back, however near", last.comes(1, 99), 0);
    }

    private static void wind() {
        ComesBack x = plain().wind(3, 0).build();
        Check.same("wind moves y alone", x.fly(0, 2), 18);
        Check.same("and x not", x.fly(0, 1), 60);
        x = plain().wind(0, 9).build();
        // heights 6 5 4 3 2 1: 54 45 36 27 18 9 by 20, cut
        Check.same("more wind by height", x.fly(0, 2), 2 + 2 + 1 + 1);
        Check.same("how far off", x.fly(0, 4), 3600 + 36);
        Check.same("comes within 60, no more", x.comes(0, 60), 0);
        // ever farthest is not the end
        ComesBack far = new World().stick().toss(0, 0, 0, 10, 0, 0, 0).text("lift 0;turn 32-24;slow 0;").build();
        int most = 0;
        for (int k = 0; k <= 6; k++) most = Math.max(most, far.tick(0, k, 0) * far.tick(0, k, 0) + far.tick(0, k, 1) * far.tick(0, k, 1));
        Check.same("ever farthest", far.fly(0, 6), most);
        Check.holds("farther than at the end", most > far.fly(0, 4));
    }

    private static void kinds() {
        World w = new World().stick(new int[] {1, 0, 0, 1}).text("lift 0-3;turn 2;slow 1;");
        for (int kind = 0; kind < 6; kind++) w.toss(kind, 0, 0, 40, 9, 30, 7);
        ComesBack x = w.build();
        int[] up = {-3, -3, -3, -3, 0, -1}, turn = {2, 3, 2, 3, 2, 3}, less = {1, 1, 1, 1, 1, 1}, high = {6, 6, 6, 13, 6, 13};
        for (int kind = 0; kind < 6; kind++) {
            Check.same("up of kind " + kind, x.why(kind, 0, 3), up[kind]);
            Check.same("turn of kind " + kind, x.why(kind, 0, 4), turn[kind]);
            Check.same("less of kind " + kind, x.why(kind, 0, 5), less[kind]);
            Check.same("high of kind " + kind, x.tick(kind, 0, 2), high[kind]);
            Check.same("lift said of kind " + kind, x.why(kind, 0, 0), -3);
        }
        // an UP climbs till tick 5, a SHORT is slowed from tick MORE on
        ComesBack late = new World().stick().toss(4, 0, 0, 40, 9, 30, 6).toss(2, 0, 0, 40, 9, 30, 3).toss(2, 0, 0, 40, 9, 30, 0)
            .text("lift 1;turn 2;slow 1;").build();
        for (int k = 0; k < 10; k++) {
            Check.same("UP at " + k, late.why(0, k, 3), k < 5 ? 3 : 0);
            Check.same("SHORT at " + k, late.why(1, k, 5), k < 3 ? 1 : 3);
            Check.same("SHORT of 0 at " + k, late.why(2, k, 5), 3);
        }
    }

    private static void bounds() {
        ComesBack x = new World().stick().toss(0, 0, 0, 60, 0, 0, 0).toss(1, 0, 0, 60, 0, 0, 2).toss(2, 0, 0, 60, 0, 0, 0).toss(4, 0, 0, 60, 0, 0, 3)
            .toss(5, 0, 0, 60, 0, 0, 0).text("lift 99;turn 99;slow 99;").text("lift 0-99;turn 0-99;slow 0-99;").build();
        x.force(1);
        Check.same("up at most", x.why(0, 0, 3), 9);
        Check.same("turn at most", x.why(0, 0, 4), 8);
        Check.same("less at most", x.why(0, 0, 5), 9);
        Check.same("a ROUND's turn is more than bound", x.why(1, 0, 4), 10);
        Check.same("a SHORT's less is more than bound", x.why(2, 0, 5), 11);
        Check.same("an UP's up is more than bound", x.why(3, 0, 3), 12);
        Check.same("said unbound", x.why(0, 0, 0), 99);
        Check.same("pace is 0 at least", x.tick(0, 7, 4), 0);
        x.force(2);
        Check.same("up at least", x.why(0, 0, 3), -9);
        Check.same("turn at least", x.why(0, 0, 4), -8);
        Check.same("less at least", x.why(0, 0, 5), 0);
        Check.same("a HOVER's up at least", x.why(4, 0, 3), -1);
    }

    private static void againstPlain() {
        Random any = new Random(21);
        int landed = 0, flew = 0;
        for (int n = 0; n < 300; n++) {
            World w = World.random(any);
            w.texts.clear();
            w.text(WILD_TEXT);
            w.law = any.nextInt(2);
            for (int[] t : w.tosses) {
                t[3] = 1 + any.nextInt(60);
                t[4] = any.nextInt(17);
                t[5] = any.nextInt(61);
            }
            ComesBack x = w.build();
            for (int i = 0; i < w.tosses.size(); i++) {
                List<int[]> rows = (w.law == 0 ? FIRST : WILD).rows(w, i, false);
                int[] end = rows.get(rows.size() - 1);
                if (end[2] == 0) landed++;
                else flew++;
                for (int k = 0; k < rows.size(); k++) {
                    for (int what = 0; what < 7; what++) Check.same("tick " + i + " " + k + " " + what, x.tick(i, k, what), rows.get(k)[what]);
                    for (int what = 0; what < 6; what++) Check.same("why " + i + " " + k + " " + what, x.why(i, k, what), rows.get(k)[7 + what]);
                }
                Check.same("tick behind the last", x.tick(i, rows.size(), 0), NO_VALUE);
                told(x, i, rows);
                List<int[]> mirrored = (w.law == 0 ? FIRST : WILD).rows(w, i, true);
                int[] last = mirrored.get(mirrored.size() - 1);
                Check.same("mirror x", x.mirror(i, 0), last[0]);
                Check.same("mirror y", x.mirror(i, 1), last[1]);
                Check.same("mirror off", x.mirror(i, 2), last[0] * last[0] + last[1] * last[1]);
            }
        }
        Check.holds("some landed, some flew on", landed > 100 && flew > 100);
    }

    /** All that is told of a flight, by its rows. */
    private static void told(ComesBack x, int i, List<int[]> rows) {
        int n = rows.size() - 1, high = 0, far = 0, lies = -1, hovers = 0, turned = 0, climb = -1, drop = 0, highAt = 0;
        int minX = 0, maxX = 0, minY = 0, maxY = 0;
        for (int k = 0; k <= n; k++) {
            int[] r = rows.get(k);
            if (r[2] > high) {
                high = r[2];
                highAt = k;
            }
            far = Math.max(far, r[0] * r[0] + r[1] * r[1]);
            if (lies < 0 && r[6] == 0) lies = k;
            minX = Math.min(minX, r[0]);
            maxX = Math.max(maxX, r[0]);
            minY = Math.min(minY, r[1]);
            maxY = Math.max(maxY, r[1]);
            if (k == 0) continue;
            int[] b = rows.get(k - 1);
            if (r[2] == b[2] && r[2] > 0) hovers++;
            if (r[2] > b[2]) climb = k;
            drop = Math.max(drop, b[2] - r[2]);
            turned += b[11];
        }
        int[] end = rows.get(n);
        int off = end[0] * end[0] + end[1] * end[1];
        int[] fly = {n, end[0], end[1], high, off, end[2] == 0 ? 1 : 0, far};
        for (int what = 0; what < 7; what++) Check.same("fly " + what, x.fly(i, what), fly[what]);
        for (int r = 0; r < 100; r += 3) Check.same("comes " + r, x.comes(i, r), end[2] == 0 && off <= r * r ? 1 : 0);
        Check.same("lies", x.lies(i), lies);
        Check.same("hovers", x.hovers(i), hovers);
        int[] circle = {maxX - minX, maxY - minY, turned, turned / 64};
        for (int what = 0; what < 4; what++) Check.same("circle " + what, x.circle(i, what), circle[what]);
        int[] down = {highAt, climb, drop};
        for (int what = 0; what < 3; what++) Check.same("down " + what, x.down(i, what), down[what]);
        for (int wide = 0; wide <= 400; wide += 37) {
            int first = -1;
            for (int k = 0; k <= n && first < 0; k++) {
                int[] r = rows.get(k);
                if (r[0] > wide || r[0] < -wide || r[1] > wide || r[1] < -wide || r[2] > wide / 4) first = k;
            }
            Check.same("room " + wide, x.room(i, wide, wide / 4), first);
        }
    }

    private static void refusals() {
        ComesBack x = plain().build();
        for (int i : new int[] {-1, 1, 8, Integer.MIN_VALUE, Integer.MAX_VALUE}) {
            Check.same("tick of no throw", x.tick(i, 0, 0), NO_VALUE);
            Check.same("fly of no throw", x.fly(i, 0), NO_VALUE);
            Check.same("comes of no throw", x.comes(i, 100), -5);
            Check.same("lies of no throw", x.lies(i), -5);
            Check.same("hovers of no throw", x.hovers(i), -5);
            Check.same("circle of no throw", x.circle(i, 0), NO_VALUE);
            Check.same("down of no throw", x.down(i, 9), -5);
            Check.same("why of no throw", x.why(i, 0, 0), NO_VALUE);
            Check.same("room of no throw", x.room(i, -1, -1), -5);
            Check.same("winds of no throw", x.winds(i, -1), -5);
            Check.same("paces of no throw", x.paces(i, 0), ComesBack.NO);
        }
        for (int k : new int[] {-1, 7, 41, Integer.MIN_VALUE}) {
            Check.same("tick " + k, x.tick(0, k, 0), NO_VALUE);
            Check.same("why " + k, x.why(0, k, 0), NO_VALUE);
        }
        Check.same("tick, what -1", x.tick(0, 0, -1), NO_VALUE);
        Check.same("tick, what 7", x.tick(0, 0, 7), NO_VALUE);
        Check.same("fly, what -1", x.fly(0, -1), NO_VALUE);
        Check.same("fly, what 7", x.fly(0, 7), NO_VALUE);
        Check.same("circle, what -1", x.circle(0, -1), NO_VALUE);
        Check.same("circle, what 4", x.circle(0, 4), NO_VALUE);
        Check.same("why, what -1", x.why(0, 0, -1), NO_VALUE);
        Check.same("why, what 6", x.why(0, 0, 6), NO_VALUE);
        Check.same("down, what -1", x.down(0, -1), -7);
        Check.same("down, what 3", x.down(0, 3), -7);
        for (int r : new int[] {-1, 100}) {
            Check.same("comes within " + r, x.comes(0, r), -7);
            Check.same("winds within " + r, x.winds(0, r), -7);
            Check.same("paces within " + r, x.paces(0, r), ComesBack.NO);
        }
        Check.same("room, wide -1", x.room(0, -1, 0), -7);
        Check.same("room, wide 4001", x.room(0, 4001, 0), -7);
        Check.same("room, high -1", x.room(0, 0, -1), -7);
        Check.same("room, high 1000", x.room(0, 0, 1000), -7);
        Check.same("room of 0", x.room(0, 0, 999), 1);
    }

    private static void windsAndPaces() {
        ComesBack x = plain().build();
        // pace p ends at 6 p, wind v at 6 v
        long bits = 0;
        for (int p = 1; p <= 8; p++) bits |= 1L << p;
        Check.same("paces within 50", x.paces(0, 50), bits);
        Check.same("winds within 66", x.winds(0, 66), 0b11111);
        Check.same("paces within 0", x.paces(0, 0), 0);
        ComesBack all = new World().stick().toss(0, 0, 0, 10, 0, 0, 0).text("lift 0-9;turn 0;slow 0;").build();
        Check.same("paces within 60", all.paces(0, 60), (1L << 61) - 2);
        Check.same("winds within 13", all.winds(0, 13), 0b1111111111 & ((1 << 9) - 1));
        Random any = new Random(22);
        int seen = 0;
        for (int n = 0; n < 150; n++) {
            World w = World.random(any);
            ComesBack y = w.build();
            for (int i = 0; i < w.tosses.size(); i++) {
                int r = any.nextInt(100), winds = 0;
                long paces = 0;
                for (int v = 0; v < 10; v++) {
                    World other = w.copy();
                    other.wind = v;
                    if (other.build().comes(i, r) == 1) winds |= 1 << v;
                }
                for (int p = 1; p <= 60; p++) if (w.thrown(i, w.tosses.get(i)[2], p).build().comes(i, r) == 1) paces |= 1L << p;
                Check.same("winds", y.winds(i, r), winds);
                Check.same("paces", y.paces(i, r), paces);
                Check.same("wind and pace stay", y.fly(i, 4), w.build().fly(i, 4));
                if (winds != 0 && winds != 1023 && paces != 0) seen++;
            }
        }
        Check.holds("some of them are mixed: " + seen, seen > 20);
    }
}
