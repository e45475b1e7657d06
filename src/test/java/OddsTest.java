import java.util.List;
import java.util.Random;

/** Promises 25 to 32: odds, the best, what to file; each against a new object that is truly changed so. */
final class OddsTest {
    private static int mixed, filings, exchanges, forms;

    public static void main(String[] args) {
        byHand();
        filingByHand();
        refusals();
        Random any = new Random(31);
        for (int n = 0; n < 700; n++) {
            World w = World.random(any);
            ComesBack x = w.build();
            for (int i = 0; i < w.tosses.size(); i++) {
                int r = any.nextInt(100);
                hand(w, x, i, any.nextInt(4), any.nextInt(4), r);
                best(w, x, i);
                filing(w, x, i, r);
                lead(w, x, i);
                Check.same("nothing asked changes the flight", x.fly(i, 4), w.build().fly(i, 4));
            }
        }
        Check.holds("odds between 0 and 1: " + mixed, mixed > 50);
        Check.holds("filings: " + filings, filings > 50);
        Check.holds("exchanges: " + exchanges, exchanges > 20);
        Check.holds("forms: " + forms, forms > 50);
        Check.end();
    }

    private static World straight(int pace) {
        return new World().stick().toss(0, 0, 0, pace, 0, 0, 0).text("lift 0;turn 0;slow 0;");
    }

    private static void byHand() {
        ComesBack x = straight(10).build();
        // paces 7 .. 13 end at 42 .. 78; within 60 are 7 8 9 10 of 7
        Check.same("odds above", x.odds(0, 0, 3, 60, 0), 4);
        Check.same("odds below", x.odds(0, 0, 3, 60, 1), 7);
        Check.same("odds of one way, in lowest terms", x.odds(0, 0, 1, 60, 0), 2);
        Check.same("odds of one way, below", x.odds(0, 0, 1, 60, 1), 3);
        Check.same("certain", x.odds(0, 3, 3, 99, 0), 1);
        Check.same("certain, below", x.odds(0, 3, 3, 99, 1), 1);
        Check.same("never", x.odds(0, 3, 3, 0, 0), 0);
        Check.same("never, below", x.odds(0, 3, 3, 0, 1), 1);
        // (54 54 and 60 60 and 66 66) by 3 is 3624
        Check.same("mean", x.mean(0, 0, 1, 0), 3624);
        Check.same("mean, below", x.mean(0, 0, 1, 1), 1);
        // paces -1 0 1 2 3 of a pace 1 are 1 1 1 2 3 (bound), counted each
        ComesBack slow = straight(1).build();
        Check.same("bound paces count each", slow.odds(0, 0, 2, 6, 0), 3);
        Check.same("bound paces, below", slow.odds(0, 0, 2, 6, 1), 5);
        Check.same("mean of bound paces", slow.mean(0, 0, 2, 0), 3 * 36 + 144 + 324);
        Check.same("mean of bound paces, below", slow.mean(0, 0, 2, 1), 5);
        // pace 8: way 0 ends at 48 0, way 4 at 42 18, way 8 at 30 30 (45 times 8 by 64 is 5, cut), the others are as far
        ComesBack ten = straight(10).build();
        Check.same("best, way and pace", ten.best(0, 0), 808);
        Check.same("best, how far off", ten.best(0, 1), 30 * 30 + 30 * 30);
        Check.same("best of pace 1, bound", slow.best(0, 0), 401);
        Check.same("best of pace 1, how far off", slow.best(0, 1), 0);
    }

    private static void filingByHand() {
        // stick (of lift) below 4: falls at once at x 10; else it floats
        World w = new World().stick(new int[] {1, 5, 0, 1}, new int[] {101, 3, 2, 1}).toss(0, 0, 0, 10, 0, 0, 0)
            .text("lift 1-9*(stick<3);turn 0;slow 0;");
        ComesBack x = w.build();
        // (5 and 3) by 2 is 4; it needs 5 in all: 3 less on the first piece
        Check.same("it floats", x.comes(0, 99), 0);
        Check.same("least", x.least(0, 99), 0 * 1000 + 0 * 100 + 2);
        Check.same("least changes nothing", x.pieceTold(0, 0, 0), 5);
        Check.same("least, too near", x.least(0, 9), -1);
        Check.same("mend, too near", x.mend(0, 9), -1);
        Check.same("nothing was mended", x.comes(0, 99), 0);
        Check.same("mend", x.mend(0, 99), 2);
        Check.same("mended", x.pieceTold(0, 0, 0), 2);
        Check.same("it comes back", x.comes(0, 99), 1);
        Check.same("least, though it comes back, is a change", x.least(0, 99), 1);
        Check.same("form", x.form(0, 99), 0);
        // slow 4: 10 6 2, at 18; slow 8 (drag 4 in all): 10 2, at 12
        World d = new World().stick(new int[] {1, 0, 0, 1}, new int[] {101, 0, 2, 1}).toss(0, 0, 0, 10, 0, 0, 0)
            .text("lift 0;turn 0;slow 4*stick;");
        ComesBack y = d.build();
        Check.same("least of drag", y.least(0, 17), 102);
        Check.same("mend of drag", y.mend(0, 17), 102);
        Check.same("mended drag", y.pieceTold(0, 0, 1), 2);
        Check.same("mended, lift stays", y.pieceTold(0, 0, 0), 0);
        Check.same("mended, it comes back", y.fly(0, 1), 12);
        ComesBack top = new World().stick(new int[] {1, 0, 19, 1}).toss(0, 0, 0, 10, 0, 0, 0).text("lift 1-9*(20<stick);turn 0;slow 0;").build();
        Check.same("no filing above 20", top.least(0, 99), -1);
        // exchange: piece 0 far out, piece 2 near
        World e = new World().stick(new int[] {10, 8, 0, 10}, new int[] {110, 8, 0, 10}, new int[] {201, 0, 0, 10}).toss(0, 0, 0, 10, 0, 0, 0)
            .text("lift 1-9*(stick<4);turn 0;slow 0;");
        ComesBack z = e.build();
        Check.same("exchange", z.exchange(0, 10), 2);
        Check.same("exchange, too near", z.exchange(0, 9), -1);
        Check.same("exchange changes nothing", z.pieceTold(0, 0, 0), 8);
        ComesBack same = new World().stick(new int[] {1, 5, 0, 1}, new int[] {20, 5, 0, 1}).toss(0, 0, 0, 1, 0, 0, 0).text("lift 0;turn 0;slow 0;").build();
        Check.same("like lifts are not exchanged", same.exchange(0, 99), -1);
        // without pieces
        ComesBack bare = straight(10).build();
        Check.same("lead without pieces", bare.lead(0, 0), -1);
        Check.same("lead without pieces, off", bare.lead(0, 1), 0);
        Check.same("least without pieces", bare.least(0, 99), -1);
        Check.same("exchange without pieces", bare.exchange(0, 99), -1);
        Check.same("form without pieces", bare.form(0, 60), 0);
        Check.same("form without pieces, too near", bare.form(0, 59), -1);
        ComesBack even = new World().stick(new int[] {1, 0, 0, 20}, new int[] {1, 0, 0, 1}).toss(0, 0, 0, 1, 0, 0, 0).text("lift 0;turn 0;slow 0;").build();
        Check.same("lead of like ones the first", even.lead(0, 0), 0);
        Check.same("lead, off", even.lead(0, 1), 36);
    }

    private static void refusals() {
        ComesBack x = straight(10).build();
        for (int i : new int[] {-1, 1, Integer.MAX_VALUE}) {
            Check.same("odds of no throw", x.odds(i, 0, 0, 0, 0), ComesBack.NO);
            Check.same("mean of no throw", x.mean(i, 0, 0, 0), ComesBack.NO);
            Check.same("best of no throw", x.best(i, 9), -5);
            Check.same("least of no throw", x.least(i, 100), -5);
            Check.same("mend of no throw", x.mend(i, 100), -5);
            Check.same("exchange of no throw", x.exchange(i, 100), -5);
            Check.same("form of no throw", x.form(i, 100), -5);
            Check.same("lead of no throw", x.lead(i, 9), -5);
        }
        int[][] bad = {{-1, 0, 0, 0}, {4, 0, 0, 0}, {0, -1, 0, 0}, {0, 4, 0, 0}, {0, 0, -1, 0}, {0, 0, 100, 0}, {0, 0, 0, -1}, {0, 0, 0, 2}};
        for (int[] b : bad) {
            Check.same("bad odds", x.odds(0, b[0], b[1], b[2], b[3]), ComesBack.NO);
            if (b[2] == 0) Check.same("bad mean", x.mean(0, b[0], b[1], b[3]), ComesBack.NO);
        }
        for (int r : new int[] {-1, 100}) {
            Check.same("least within " + r, x.least(0, r), -7);
            Check.same("mend within " + r, x.mend(0, r), -7);
            Check.same("exchange within " + r, x.exchange(0, r), -7);
            Check.same("form within " + r, x.form(0, r), -7);
        }
        for (int what : new int[] {-1, 2}) {
            Check.same("best, what " + what, x.best(0, what), -7);
            Check.same("lead, what " + what, x.lead(0, what), -7);
        }
    }

    private static long gcd(long a, long b) {
        return b == 0 ? a : gcd(b, a % b);
    }

    private static void hand(World w, ComesBack x, int i, int wander, int v, int r) {
        int way = w.tosses.get(i)[2], pace = w.tosses.get(i)[3];
        long well = 0, all = 0, off = 0;
        for (int dw = -wander; dw <= wander; dw++) {
            for (int dv = -v; dv <= v; dv++) {
                ComesBack y = w.thrown(i, way + dw, pace + dv).build();
                well += y.comes(i, r);
                off += y.fly(i, 4);
                all++;
            }
        }
        if (well > 0 && well < all) mixed++;
        Check.same("odds above", x.odds(i, wander, v, r, 0), well / gcd(well, all));
        Check.same("odds below", x.odds(i, wander, v, r, 1), all / gcd(well, all));
        Check.same("mean above", x.mean(i, wander, v, 0), off / gcd(off, all));
        Check.same("mean below", x.mean(i, wander, v, 1), all / gcd(off, all));
    }

    private static void best(World w, ComesBack x, int i) {
        int pace = w.tosses.get(i)[3], least = Integer.MAX_VALUE, go = -1;
        for (int way = 0; way < 64; way += 4) {
            for (int by = -2; by <= 2; by++) {
                int p = Math.max(1, Math.min(60, pace + by));
                int off = w.thrown(i, way, p).build().fly(i, 4);
                if (off < least) {
                    least = off;
                    go = 100 * way + p;
                }
            }
        }
        Check.same("best", x.best(i, 0), go);
        Check.same("best, off", x.best(i, 1), least);
    }

    private static int leastBy(World w, int i, int r) {
        List<int[]> pieces = w.piecesOf(i);
        for (int by = 1; by <= 3; by++) {
            for (int p = 0; p < pieces.size(); p++) {
                for (int what = 0; what < 2; what++) {
                    for (int sign = -1; sign <= 1; sign += 2) {
                        int v = pieces.get(p)[1 + what] + sign * by;
                        if (v < 0 || v > 20) continue;
                        if (w.filed(i, p, 1 + what, v).build().comes(i, r) == 1) return 1000 * p + 100 * what + v;
                    }
                }
            }
        }
        return -1;
    }

    private static void filing(World w, ComesBack x, int i, int r) {
        List<int[]> pieces = w.piecesOf(i);
        int least = leastBy(w, i, r);
        if (least >= 0) filings++;
        Check.same("least", x.least(i, r), least);
        ComesBack y = w.build();
        Check.same("mend", y.mend(i, r), least);
        for (int p = 0; p < pieces.size(); p++) {
            for (int what = 0; what < 3; what++) {
                boolean filed = least >= 0 && least / 1000 == p && least / 100 % 10 == what;
                Check.same("mended", y.pieceTold(w.tosses.get(i)[1], p, what), filed ? least % 100 : pieces.get(p)[1 + what]);
            }
        }
        int exchange = -1;
        for (int p = 0; p < pieces.size() && exchange < 0; p++) {
            for (int q = p + 1; q < pieces.size() && exchange < 0; q++) {
                int a = pieces.get(p)[1], b = pieces.get(q)[1];
                if (a != b && w.filed(i, p, 1, b).filed(i, q, 1, a).build().comes(i, r) == 1) exchange = 10 * p + q;
            }
        }
        if (exchange >= 0) exchanges++;
        Check.same("exchange", x.exchange(i, r), exchange);
        int form = -1;
        for (int lift = 0; lift <= 20 && form < 0; lift++) {
            World all = w.copy();
            for (int[] p : all.piecesOf(i)) p[1] = lift;
            if (all.build().comes(i, r) == 1) form = lift;
        }
        if (form > 0) forms++;
        Check.same("form", x.form(i, r), form);
    }

    private static void lead(World w, ComesBack x, int i) {
        int piece = -1, least = 0;
        for (int p = 0; p < w.piecesOf(i).size(); p++) {
            int off = w.filed(i, p, 3, 20).build().fly(i, 4);
            if (piece < 0 || off < least) {
                piece = p;
                least = off;
            }
        }
        Check.same("lead", x.lead(i, 0), piece);
        Check.same("lead, off", x.lead(i, 1), least);
    }
}
