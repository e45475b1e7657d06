import java.util.ArrayList;
import java.util.List;
import java.util.Random;

/** What an object is made of, so that tests can make one anew with something changed. */
final class World {
    static final String FIRST = "lift tilt - 6 + stick ; turn 2 + (spin < 10) ; slow 1 + stick ;";
    private static final String[] LAWS = {
        "lift 0;turn 8;slow 0;",
        "lift (high<5) - (spin=0);turn 7;slow 0;",
        "lift tilt<spin;turn 6+(spin<4);slow stick;",
        "lift stick-2;turn stick*4;slow speed<5;",
        "lift 3-spin;turn 9;slow 1;",
        "lift wind;turn 0-8;slow 0;",
        "lift stick-4;turn 5;slow stick;",
        "lift 4*(speed<8)-stick;turn 8;slow not(speed<4);",
    };

    /** Pieces as {where, lift, drag, weight}. */
    List<List<int[]>> sticks = new ArrayList<>();
    /** Throws as {kind, stick, way, pace, slant, snap, more}. */
    List<int[]> tosses = new ArrayList<>();
    List<int[]> people = new ArrayList<>();
    List<String> texts = new ArrayList<>();
    int law, wind, more;

    World stick(int[]... pieces) {
        List<int[]> one = new ArrayList<>();
        for (int[] p : pieces) one.add(p);
        sticks.add(one);
        return this;
    }

    World toss(int kind, int stick, int way, int pace, int slant, int snap, int more) {
        tosses.add(new int[] {kind, stick, way, pace, slant, snap, more});
        return this;
    }

    World text(String t) {
        texts.add(t);
        law = texts.size();
        return this;
    }

    World person(int x, int y) {
        people.add(new int[] {x, y});
        return this;
    }

    World wind(int v, int m) {
        wind = v;
        more = m;
        return this;
    }

    World copy() {
        World w = new World();
        for (List<int[]> s : sticks) {
            List<int[]> one = new ArrayList<>();
            for (int[] p : s) one.add(p.clone());
            w.sticks.add(one);
        }
        for (int[] t : tosses) w.tosses.add(t.clone());
        for (int[] p : people) w.people.add(p.clone());
        w.texts.addAll(texts);
        w.law = law;
        w.wind = wind;
        w.more = more;
        return w;
    }

    /** The pieces of a throw's stick. */
    List<int[]> piecesOf(int i) {
        return sticks.get(tosses.get(i)[1]);
    }

    /** This world, but with another way and pace of a throw (round, or bound). */
    World thrown(int i, int way, int pace) {
        World w = copy();
        w.tosses.get(i)[2] = Math.floorMod(way, 64);
        w.tosses.get(i)[3] = Math.max(1, Math.min(60, pace));
        return w;
    }

    /** This world, but with a piece (of a throw's stick) filed: 1 lift, 2 drag, 3 weight. */
    World filed(int i, int p, int what, int v) {
        World w = copy();
        w.piecesOf(i).get(p)[what] = v;
        return w;
    }

    ComesBack build() {
        ComesBack x = new ComesBack();
        for (List<int[]> s : sticks) {
            int n = x.stick();
            for (int[] p : s) x.piece(n, p[0], p[1], p[2], p[3]);
        }
        for (int[] t : tosses) x.toss(t[0], t[1], 100 * t[2] + t[3], 100 * t[4] + t[5], t[6]);
        for (int[] p : people) x.person(p[0], p[1]);
        for (String t : texts) if (text(x, t) < 0) throw new IllegalStateException("a test's text is at fault: " + t);
        x.force(law);
        x.wind(wind, more);
        return x;
    }

    static void feed(ComesBack x, String t) {
        for (int k = 0; k < t.length(); k++) x.feed(t.charAt(k), 1);
    }

    static int text(ComesBack x, String t) {
        feed(x, t);
        return x.text();
    }

    static World random(Random any) {
        World w = new World();
        int sticks = 1 + any.nextInt(3);
        for (int s = 0; s < sticks; s++) {
            int[][] pieces = new int[any.nextInt(6) == 0 ? 0 : 1 + any.nextInt(4)][];
            for (int p = 0; p < pieces.length; p++) {
                pieces[p] = new int[] {100 * any.nextInt(4) + 1 + any.nextInt(12), any.nextInt(10), any.nextInt(4), 1 + any.nextInt(20)};
            }
            w.stick(pieces);
        }
        int tosses = 1 + any.nextInt(4);
        for (int i = 0; i < tosses; i++) {
            int pace = any.nextInt(8) == 0 ? (any.nextBoolean() ? 1 + any.nextInt(3) : 58 + any.nextInt(3)) : 1 + any.nextInt(16);
            w.toss(any.nextInt(6), any.nextInt(sticks), any.nextInt(64), pace, any.nextInt(9), any.nextInt(20), any.nextInt(21));
        }
        int texts = any.nextInt(4);
        for (int t = 0; t < texts; t++) w.text(LAWS[any.nextInt(LAWS.length)]);
        w.law = any.nextInt(5) == 0 ? 0 : w.law;
        int people = any.nextInt(4);
        for (int p = 0; p < people; p++) w.person(any.nextInt(61) - 30, any.nextInt(61) - 30);
        if (any.nextInt(3) == 0) w.wind(any.nextInt(10), any.nextInt(10));
        else w.wind(any.nextInt(2), any.nextInt(3));
        return w;
    }
}
