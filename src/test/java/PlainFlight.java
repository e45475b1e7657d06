import java.util.ArrayList;
import java.util.List;

/** A flight told a second time, straight from the document, with laws written in Java. */
final class PlainFlight {
    interface Rule { int of(int speed, int spin, int tilt, int high, int stick, int wind); }

    private static final int[] EAST = {64, 59, 45, 24, 0, -24, -45, -59, -64, -59, -45, -24, 0, 24, 45, 59};

    final Rule lift, turn, slow;

    PlainFlight(Rule lift, Rule turn, Rule slow) {
        this.lift = lift;
        this.turn = turn;
        this.slow = slow;
    }

    private static int bound(int v, int from, int to) {
        return v < from ? from : v > to ? to : v;
    }

    /** Rows {x, y, height, way, pace, spin, tilt, lift, turn, slow, UP, TURN, LESS} of all ticks. */
    List<int[]> rows(World w, int i, boolean mirrored) {
        int[] t = w.tosses.get(i);
        int kind = t[0], more = t[6];
        int lifts = 0, drags = 0, weights = 0;
        boolean[] arms = new boolean[4];
        for (int[] p : w.sticks.get(t[1])) {
            int out = p[0] % 100;
            lifts += p[1] * out;
            drags += p[2] * out;
            weights += p[3];
            arms[p[0] / 100] = true;
        }
        int used = 0;
        for (boolean a : arms) if (a) used++;
        if (weights < 1) weights = 1;
        boolean round = kind == 1 || kind == 3 || kind == 5;
        int x = 0, y = 0, z = kind == 3 || kind == 5 ? 6 + more : 6;
        int way = mirrored ? (64 - t[2]) % 64 : t[2], pace = t[3], tilt = t[4], spin = t[5];
        List<int[]> all = new ArrayList<>();
        for (int k = 0; ; k++) {
            int wind = w.wind + w.more * z / 20;
            int saidLift = lift.of(pace, spin, tilt, z, lifts / weights, wind);
            int saidTurn = turn.of(pace, spin, tilt, z, used, wind);
            int saidSlow = slow.of(pace, spin, tilt, z, drags / weights, wind);
            int up = bound(saidLift, -9, 9);
            if (kind == 4) up += k < 5 ? more % 4 : -1;
            if (kind == 5 && up < -1) up = -1;
            int turned = bound(saidTurn, -8, 8) + (round ? more % 3 : 0);
            int less = bound(saidSlow, 0, 9) + (kind == 2 && k >= more ? 2 : 0);
            all.add(new int[] {x, y, z, way, pace, spin, tilt, saidLift, saidTurn, saidSlow, up, turned, less});
            if (z == 0 || k == 40) return all;
            int east = EAST[way / 4], north = EAST[(way / 4 + 12) % 16];
            x += (int) (east * pace / 64.0);
            y += (int) (north * pace / 64.0) + wind;
            z = Math.max(0, z + up - 1);
            way = (way + (mirrored ? -turned : turned) + 128) % 64;
            pace = Math.max(0, pace - less);
            spin = Math.max(0, spin - 1);
            if (k % 3 == 2) tilt = Math.max(0, tilt - 1);
        }
    }
}
