import java.util.Random;

/** Promises 38 to 47: people, two flights at once, mirrored and drawn ones, wishes, images. */
final class ParkTest {
    private static int hits, drawnSome, nearLater;

    public static void main(String[] args) {
        people();
        hit();
        near();
        mirror();
        drawn();
        want();
        images();
        refusals();
        Random any = new Random(51);
        for (int n = 0; n < 400; n++) random(any);
        Check.holds("hits: " + hits, hits > 30);
        Check.holds("drawn: " + drawnSome, drawnSome > 30);
        Check.holds("near later: " + nearLater, nearLater > 10);
        Check.end();
    }

    private static World straight(int... paces) {
        World w = new World().stick().text("lift 0;turn 0;slow 0;");
        for (int p : paces) w.toss(0, 0, 0, p, 0, 0, 0);
        return w;
    }

    private static void people() {
        ComesBack x = new ComesBack();
        int[][] bad = {{-4001, 0}, {4001, 0}, {0, -4001}, {0, 4001}, {Integer.MIN_VALUE, 0}, {0, Integer.MAX_VALUE}};
        for (int[] b : bad) Check.same("bad person", x.person(b[0], b[1]), ComesBack.BAD);
        Check.same("walks, nobody", x.walks(0, 9999, 0), ComesBack.NONE);
        Check.same("person", x.person(-4000, 4000), 0);
        Check.same("person", x.person(4000, -4000), 1);
        for (int p = 2; p < 6; p++) Check.same("person", x.person(0, 0), p);
        Check.same("bad ahead of full", x.person(4001, 0), ComesBack.BAD);
        Check.same("person, full", x.person(0, 0), ComesBack.FULL);
        Check.same("people", x.count(2), 6);
        Check.same("walks", x.walks(5, 4000, -4000), 5);
        for (int[] b : bad) Check.same("walks badly", x.walks(5, b[0], b[1]), ComesBack.BAD);
        Check.same("walks, -1", x.walks(-1, 0, 0), ComesBack.NONE);
        Check.same("walks, 6", x.walks(6, 0, 0), ComesBack.NONE);
    }

    private static void hit() {
        // at 10 k, 6 less k high
        ComesBack x = straight(10).build();
        Check.same("nobody there", x.hit(0), -1);
        Check.same("odds of nobody", x.hitOdds(0, 3, 3, 0), 0);
        Check.same("odds of nobody, below", x.hitOdds(0, 3, 3, 1), 1);
        x.person(33, 0);
        Check.same("3 off in x", x.hit(0), -1);
        x.walks(0, 32, 2);
        Check.same("2 off in x, y", x.hit(0), 300);
        x.walks(0, 32, 3);
        Check.same("3 off in y", x.hit(0), -1);
        x.walks(0, 28, -2);
        Check.same("2 off the other way", x.hit(0), 300);
        x.walks(0, 28, -3);
        Check.same("3 off the other way", x.hit(0), -1);
        x.walks(0, 60, 0);
        Check.same("at the last tick", x.hit(0), 600);
        x.person(50, 0);
        Check.same("another earlier", x.hit(0), 501);
        x.person(50, 1);
        Check.same("the first who is", x.hit(0), 501);
        x.person(0, 0);
        Check.same("at tick 0", x.hit(0), 3);
        // an OVER with MORE 3 begins 9 high: no higher than 8 from tick 1 on
        ComesBack over = new World().stick().toss(3, 0, 0, 10, 0, 0, 3).text("lift 0;turn 0;slow 0;").person(0, 0).person(10, 0).person(20, 0).build();
        Check.same("9 high hits none", over.hit(0), 101);
        ComesBack odds = straight(10).person(60, 0).build();
        Check.same("certain", odds.hitOdds(0, 0, 0, 0), 1);
        Check.same("certain, below", odds.hitOdds(0, 0, 0, 1), 1);
        // paces 9 10 11 end at 54 60 66 and pass 45 50 55: only 10 hits 60
        Check.same("one of three", odds.hitOdds(0, 0, 1, 0), 1);
        Check.same("one of three, below", odds.hitOdds(0, 0, 1, 1), 3);
    }

    private static void near() {
        World w = straight(10, 20).toss(3, 0, 0, 10, 0, 0, 3).toss(3, 0, 16, 10, 0, 0, 0);
        ComesBack x = w.build();
        Check.same("alike", x.near(0, 0, 0), 0);
        Check.same("alike, at", x.near(0, 0, 1), 0);
        Check.same("both begin together", x.near(0, 1, 0), 0);
        Check.same("both begin together, at", x.near(0, 1, 1), 0);
        Check.same("one above the other", x.near(0, 2, 0), 9);
        Check.same("one above the other, at first", x.near(2, 0, 1), 0);
        // one falls faster toward the other: near later
        ComesBack y = new World().stick().toss(3, 0, 0, 1, 0, 0, 18).toss(4, 0, 0, 1, 0, 0, 3).text("lift 0;turn 0;slow 0;").build();
        // heights 24 23 22 21 20 19 18 .. and 6 8 10 12 14 16 14 ..
        Check.same("near later", y.near(0, 1, 0), 9);
        Check.same("near later, at", y.near(0, 1, 1), 5);
        // heights 24 18 12 6 0 and 6 5 4 3 2 ..: nearest at the first one's last tick
        ComesBack z = new World().stick().stick(new int[] {1, 5, 0, 1}).toss(3, 1, 0, 1, 0, 0, 18).toss(0, 0, 0, 1, 0, 0, 0)
            .text("lift 0-stick;turn 0;slow 0;").build();
        Check.same("near at the last", z.near(0, 1, 0), 4);
        Check.same("near at the last, at", z.near(0, 1, 1), 4);
        Check.same("near at the last, the other way", z.near(1, 0, 1), 4);
    }

    private static void mirror() {
        // way 4 of pace 32: 59 and 24 by 2, cut; mirrored it is way 60: 59 and -24
        ComesBack x = new World().stick().toss(0, 0, 4, 32, 0, 0, 0).text("lift 0-9;turn 3;slow 0;").build();
        Check.same("x", x.fly(0, 1), 29);
        Check.same("y", x.fly(0, 2), 12);
        Check.same("mirrored x", x.mirror(0, 0), 29);
        Check.same("mirrored y", x.mirror(0, 1), -12);
        Check.same("mirrored, off", x.mirror(0, 2), 29 * 29 + 144);
        ComesBack turned = new World().stick().toss(1, 0, 0, 16, 0, 0, 2).text("lift 0-2;turn 6;slow 0;").build();
        // ways 0, 8 (6 and 2): 16 0, 11 11; mirrored 0, 56: 16 0, 11 -11
        Check.same("turned y", turned.fly(0, 2), 11);
        Check.same("mirrored turned x", turned.mirror(0, 0), 27);
        Check.same("mirrored turned y", turned.mirror(0, 1), -11);
        // the wind is not mirrored
        turned.wind(5, 0);
        Check.same("in wind", turned.mirror(0, 1), -11 + 10);
        Check.same("the throw stays", turned.fly(0, 2), 21);
    }

    private static void drawn() {
        ComesBack x = straight(10).build();
        Check.same("of none", x.drawn(0, 0, 0, 99), 0);
        Check.same("all", x.drawn(0, 5, 40, 99), 40);
        Check.same("none", x.drawn(0, 5, 40, 0), 0);
        // seed 0: lots 48271 and 182605794, which modulo 7 are 6 and 0: way 3 (east as way 0), pace 7, at 42
        Check.same("one of seed 0", x.drawn(0, 0, 1, 42), 1);
        Check.same("one of seed 0, too near", x.drawn(0, 0, 1, 41), 0);
    }

    private static void want() {
        ComesBack none = new ComesBack();
        Check.same("no throws", none.want(0, 0), -1);
        Check.same("no throws", none.want(1, 99), -1);
        ComesBack x = straight(9, 5, 7, 5).toss(3, 0, 0, 2, 0, 0, 3).toss(3, 0, 0, 2, 0, 0, 3).build();
        Check.same("least far off", x.want(0, 0), 4);
        Check.same("most ticks", x.want(1, 99), 4);
        Check.same("none so near", x.want(1, 17), -1);
        Check.same("just so near", x.want(1, 18), 4);
        ComesBack y = straight(9, 5, 7, 5).build();
        Check.same("of like ones the first", y.want(0, 50), 1);
        Check.same("most ticks, of like ones the first", y.want(1, 42), 1);
        Check.same("most ticks, all", y.want(1, 54), 0);
        // one that floats is no return, though it has most ticks
        ComesBack z = new World().stick(new int[] {1, 2, 0, 1}).stick().toss(0, 0, 0, 1, 0, 0, 0).toss(0, 1, 0, 9, 0, 0, 0).text("lift stick;turn 8;slow 0;").build();
        Check.same("floats", z.fly(0, 5), 0);
        Check.same("only those that come back", z.want(1, 99), 1);
        for (int r : new int[] {-1, 100}) {
            Check.same("bad r", x.want(0, r), ComesBack.BAD);
            Check.same("bad r", x.want(1, r), ComesBack.BAD);
        }
        Check.same("bad what", x.want(2, 0), ComesBack.BAD);
        Check.same("bad what", x.want(-1, 0), ComesBack.BAD);
    }

    private static void images() {
        ComesBack x = new ComesBack();
        Check.same("none yet", x.back(), ComesBack.STATE);
        x.stick();
        x.stick();
        x.piece(0, 1, 2, 3, 4);
        x.toss(0, 0, 10, 0, 0);
        x.person(5, 6);
        x.wind(3, 4);
        World.text(x, "lift 0;turn 0;slow 0;");
        Check.same("image", x.image(), 2);
        x.file(0, 0, 0, 12);
        x.file(0, 0, 1, 13);
        x.file(0, 0, 2, 14);
        x.piece(0, 102, 7, 8, 9);
        x.piece(1, 103, 1, 1, 1);
        x.stick();
        x.piece(2, 204, 5, 5, 5);
        x.walks(0, 10, 0);
        x.person(20, 0);
        x.wind(9, 9);
        x.force(1);
        x.toss(1, 0, 11, 0, 0);
        x.sheet(0, 2, 2);
        x.feed(97, 1);
        Check.same("back", x.back(), 3);
        int[][] pieces = {{0, 0, 2, 3, 4, 0, 1}, {0, 1, 7, 8, 9, 1, 2}, {1, 0, 1, 1, 1, 1, 3}, {2, 0, 5, 5, 5, 2, 4}};
        for (int[] p : pieces) {
            for (int what = 0; what < 5; what++) Check.same("piece, " + what, x.pieceTold(p[0], p[1], what), p[2 + what]);
        }
        int[] counts = {3, 2, 2, 2, 0, 1};
        for (int what = 0; what < 6; what++) Check.same("count, " + what, x.count(what), counts[what]);
        Check.same("wind is back", x.wind(0, 0), 34);
        Check.same("sheets stay", x.cell(0, 1, 0), 1);
        x.force(1);
        // straight at 10 k: person 0 is at 5 6 again, person 1 stays at 20 0
        Check.same("people are back", x.hit(0), 201);
        Check.same("back once more", x.back(), 3);
        Check.same("wind is back once more", x.wind(1, 1), 34);
        x.force(1);
        Check.same("a new image", x.image(), 3);
        x.force(0);
        x.wind(2, 2);
        x.file(2, 0, 0, 0);
        Check.same("back to the new one", x.back(), 3);
        Check.same("its wind", x.wind(0, 0), 11);
        Check.same("its law", x.count(4), 1);
        Check.same("its piece", x.pieceTold(2, 0, 0), 5);
    }

    private static void refusals() {
        ComesBack x = straight(10).build();
        for (int i : new int[] {-1, 1, Integer.MAX_VALUE}) {
            Check.same("hit of no throw", x.hit(i), -5);
            Check.same("hit odds of no throw", x.hitOdds(i, 0, 0, 0), ComesBack.NO);
            Check.same("near of no throw", x.near(i, 0, 9), -5);
            Check.same("near of no other", x.near(0, i, 9), -5);
            Check.same("mirror of no throw", x.mirror(i, 0), -1000000);
            Check.same("drawn of no throw", x.drawn(i, -1, 0, 0), -5);
        }
        int[][] bad = {{-1, 0, 0}, {4, 0, 0}, {0, -1, 0}, {0, 4, 0}, {0, 0, -1}, {0, 0, 2}};
        for (int[] b : bad) Check.same("bad hit odds", x.hitOdds(0, b[0], b[1], b[2]), ComesBack.NO);
        for (int what : new int[] {-1, 2}) Check.same("near, what " + what, x.near(0, 0, what), -7);
        for (int what : new int[] {-1, 3}) Check.same("mirror, what " + what, x.mirror(0, what), -1000000);
        int[][] lots = {{-1, 0, 0}, {100000, 0, 0}, {0, -1, 0}, {0, 41, 0}, {0, 0, -1}, {0, 0, 100}};
        for (int[] b : lots) Check.same("bad drawn", x.drawn(0, b[0], b[1], b[2]), -7);
        Check.same("greatest seed", x.drawn(0, 99999, 40, 99), 40);
    }

    private static long gcd(long a, long b) {
        return b == 0 ? a : gcd(b, a % b);
    }

    private static int hitBy(World w, ComesBack x, int i) {
        for (int k = 0; k <= x.fly(i, 0); k++) {
            for (int p = 0; p < w.people.size(); p++) {
                int dx = x.tick(i, k, 0) - w.people.get(p)[0], dy = x.tick(i, k, 1) - w.people.get(p)[1];
                if (x.tick(i, k, 2) <= 8 && dx >= -2 && dx <= 2 && dy >= -2 && dy <= 2) return 100 * k + p;
            }
        }
        return -1;
    }

    private static void random(Random any) {
        World w = World.random(any);
        ComesBack x = w.build();
        int i = any.nextInt(w.tosses.size()), j = any.nextInt(w.tosses.size()), r = any.nextInt(100);
        int way = w.tosses.get(i)[2], pace = w.tosses.get(i)[3];
        Check.same("hit", x.hit(i), hitBy(w, w.build(), i));
        int wander = any.nextInt(4), v = any.nextInt(4), all = 0, hit = 0;
        for (int dw = -wander; dw <= wander; dw++) {
            for (int dv = -v; dv <= v; dv++) {
                World t = w.thrown(i, way + dw, pace + dv);
                if (hitBy(t, t.build(), i) >= 0) hit++;
                all++;
            }
        }
        Check.same("hit odds", x.hitOdds(i, wander, v, 0), hit / gcd(hit, all));
        Check.same("hit odds, below", x.hitOdds(i, wander, v, 1), all / gcd(hit, all));
        if (hit > 0 && hit < all) hits++;
        int nearest = Integer.MAX_VALUE, at = -1;
        for (int k = 0; k <= Math.min(x.fly(i, 0), x.fly(j, 0)); k++) {
            int off = 0;
            for (int what = 0; what < 3; what++) {
                int d = x.tick(i, k, what) - x.tick(j, k, what);
                off += d * d;
            }
            if (off < nearest) {
                nearest = off;
                at = k;
            }
        }
        if (at > 0) nearLater++;
        Check.same("near", x.near(i, j, 0), nearest);
        Check.same("near, at", x.near(i, j, 1), at);
        int seed = any.nextInt(100000), n = any.nextInt(41), well = 0;
        java.math.BigInteger lot = java.math.BigInteger.valueOf(seed + 1), modulus = java.math.BigInteger.valueOf(2147483647);
        for (int k = 0; k < n; k++) {
            lot = lot.multiply(java.math.BigInteger.valueOf(48271)).mod(modulus);
            int one = lot.intValue() % 7 - 3;
            lot = lot.multiply(java.math.BigInteger.valueOf(48271)).mod(modulus);
            int other = lot.intValue() % 7 - 3;
            well += w.thrown(i, way + one, pace + other).build().comes(i, r);
        }
        Check.same("drawn", x.drawn(i, seed, n, r), well);
        if (well > 0 && well < n) drawnSome++;
        int least = -1, longest = -1;
        for (int k = 0; k < w.tosses.size(); k++) {
            if (least < 0 || x.fly(k, 4) < x.fly(least, 4)) least = k;
            if (x.comes(k, r) == 1 && (longest < 0 || x.fly(k, 0) > x.fly(longest, 0))) longest = k;
        }
        Check.same("want least far off", x.want(0, r), least);
        Check.same("want longest", x.want(1, r), longest);
        Check.same("nothing asked changes the flight", x.fly(i, 4), w.build().fly(i, 4));
    }
}
