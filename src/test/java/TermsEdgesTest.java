/** The Terms, sentence by sentence: each one that names a boundary case, on both sides of the boundary. */
final class TermsEdgesTest {
    private static final String STILL = "lift 0;turn 0;slow 0;", FALL = "lift 0-9;turn 0;slow 0;";

    public static void main(String[] args) {
        fewCalls();
        sticksAndPieces();
        windAtFirst();
        windByHeight();
        throwsNumbered();
        flightsEnd();
        cutTowardZero();
        heightAtLeast();
        wayGoesRound();
        paceAndSpinAtLeast();
        tiltByThrees();
        eastAndNorth();
        kindThrow();
        kindRound();
        kindShort();
        kindOver();
        kindUp();
        kindHover();
        comesBack();
        handGoesRound();
        handIsBound();
        best();
        leastIsBound();
        leastInOrder();
        films();
        hits();
        sheets();
        Check.end();
    }

    private static World still() {
        return new World().stick().text(STILL);
    }

    private static void fewCalls() {
        Check.sentence("An object is used for at most 512 calls after it has been made");
        ComesBack x = new ComesBack();
        x.stick();
        x.piece(0, 110, 4, 3, 2);
        x.toss(0, 0, 1630, 1020, 0);
        long first = x.apart(0, 0, 0);
        for (int n = 5; n < 511; n++) {
            if (n % 2 == 0) x.film(0, n % 4);
            else x.odds(0, 3, 3, 99, 1);
        }
        Check.same("call 511", x.sheet(3, -1, 0), 1);
        Check.same("call 512", x.film(0, 3), 40);
        Check.same("call 4, though", first, ComesBack.NO);
        // texts that fail take no room for good
        ComesBack y = new ComesBack();
        for (int n = 0; n < 128; n++) {
            for (int k = 0; k < 3; k++) y.feed(0x2828282828282828L, 8);
            Check.same("text " + n, y.text(), -100);
        }
    }

    private static void sticksAndPieces() {
        Check.sentence("STICKS are numbered from 0 on, 4 at most.");
        ComesBack x = new ComesBack();
        for (int s = 0; s < 4; s++) Check.same("stick", x.stick(), s);
        Check.same("a fifth", x.stick(), -4);
        Check.sentence("PIECES of one from 0 on, 6 at most");
        for (int s = 0; s < 4; s++) {
            for (int p = 0; p < 6; p++) Check.same("piece", x.piece(s, 100 * (p % 4) + 1, p, 20 - p, 20), p);
            Check.same("a seventh", x.piece(s, 1, 0, 0, 1), -4);
            for (int p = 0; p < 6; p++) {
                int[] due = {p, 20 - p, 20, p % 4, 1};
                for (int what = 0; what < 5; what++) Check.same("what is told", x.pieceTold(s, p, what), due[what]);
            }
        }
        Check.sentence("an ARM (0 .. 3), how far OUT (1 .. 20), LIFT (0 .. 20), DRAG (0 .. 20), WEIGHT (1 .. 20).");
        for (int arm = -1; arm <= 4; arm++) {
            for (int out = 0; out <= 99; out++) {
                ComesBack y = new ComesBack();
                y.stick();
                boolean well = arm >= 0 && arm <= 3 && out >= 1 && out <= 20;
                Check.same("arm " + arm + ", out " + out, y.piece(0, 100 * arm + out, 0, 0, 1), well ? 0 : -2);
                Check.same("arm told", y.pieceTold(0, 0, 3), well ? arm : -5);
                Check.same("out told", y.pieceTold(0, 0, 4), well ? out : -5);
            }
        }
    }

    private static void windAtFirst() {
        Check.sentence("WIND on the ground 0 .. 9, and MORE wind 0 .. 9 (0 both at first)");
        ComesBack x = new ComesBack();
        x.stick();
        x.toss(3, 0, 20, 0, 18);
        World.text(x, STILL);
        x.force(1);
        Check.same("no wind blows at first", x.fly(0, 2), 0);
        for (int v = 0; v <= 9; v++) {
            for (int more = 0; more <= 9; more++) {
                ComesBack y = new ComesBack();
                Check.same("wind that was at first", y.wind(v, more), 0);
                Check.same("wind that was", y.wind(9 - v, 9 - more), 10 * v + more);
            }
        }
    }

    private static void windByHeight() {
        Check.sentence("at a height z WIND, and MORE times z by 20 (cut).");
        // OVERs begin at all heights 6 .. 26
        for (int high = 6; high <= 26; high++) {
            for (int more = 0; more <= 9; more++) {
                ComesBack x = new World().stick().toss(3, 0, 0, 1, 0, 0, high - 6).text("lift wind;turn 0;slow 0;").wind(4, more).build();
                int due = 4;
                for (int all = more * high; all >= 20; all -= 20) due++;
                Check.same("wind " + more + " at " + high, x.why(0, 0, 0), due);
                Check.same("moved by wind " + more + " at " + high, x.tick(0, 1, 1), due);
            }
        }
        // heights 6 .. 0: the last one is on the ground
        ComesBack x = new World().stick().toss(0, 0, 0, 1, 0, 0, 0).text("lift 0;turn wind;slow 0;").wind(3, 9).build();
        int[] winds = {3 + 2, 3 + 2, 3 + 1, 3 + 1, 3, 3, 3};
        for (int k = 0; k <= 6; k++) Check.same("wind at " + (6 - k), x.why(0, k, 1), winds[k]);
    }

    private static void throwsNumbered() {
        Check.sentence("THROWS are numbered from 0 on, 8 at most");
        ComesBack x = new ComesBack();
        for (int s = 0; s < 4; s++) x.stick();
        for (int i = 0; i < 8; i++) Check.same("throw", x.toss(i % 6, i % 4, 101 * (i + 1), 200 * i + i, 20 - i), i);
        Check.same("a ninth", x.toss(0, 0, 1, 0, 0), -4);
        for (int i = 0; i < 8; i++) {
            int[] due = {i % 6, i % 4, i + 1, i + 1, 2 * i, i, 20 - i};
            for (int what = 0; what < 7; what++) Check.same("throw " + i + " told " + what, x.tossTold(i, what), due[what]);
        }
        Check.sentence("a WAY (0 .. 63), PACE (1 .. 60), SLANT (0 .. 16), SNAP (0 .. 60), MORE (0 .. 20).");
        for (int a = -1; a <= 65; a++) {
            for (int b = 0; b <= 99; b++) {
                ComesBack y = new ComesBack();
                y.stick();
                boolean go = a >= 0 && a <= 63 && b >= 1 && b <= 60, hold = a >= 0 && a <= 16 && b <= 60;
                Check.same("way " + a + ", pace " + b, y.toss(0, 0, 100 * a + b, 0, 0), go ? 0 : -2);
                Check.same("slant " + a + ", snap " + b, y.toss(0, 0, 1, 100 * a + b, 0), hold ? go ? 1 : 0 : -2);
                if (go) Check.same("way and pace told", 100 * y.tossTold(0, 2) + y.tossTold(0, 3), 100 * a + b);
                if (hold) Check.same("slant and snap told", 100 * y.tossTold(go ? 1 : 0, 4) + y.tossTold(go ? 1 : 0, 5), 100 * a + b);
            }
        }
    }

    private static void flightsEnd() {
        Check.sentence("A FLIGHT goes on TICK by TICK till it is at height 0 (down), or behind 40 TICKS.");
        // 1 lower at each tick: an OVER of MORE 20 lasts 26 ticks, a fall from 6 by 9 one
        for (int more = 0; more <= 20; more++) {
            ComesBack x = still().toss(3, 0, 0, 1, 0, 0, more).build();
            Check.same("ticks from " + (6 + more), x.fly(0, 0), 6 + more);
            Check.same("down", x.fly(0, 5), 1);
            Check.same("the last tick's height", x.tick(0, 6 + more, 2), 0);
            Check.same("the one ahead", x.tick(0, 5 + more, 2), 1);
            Check.same("none behind", x.tick(0, 7 + more, 2), -1000000);
        }
        // level for s ticks (spin s), then 6 down: s and 6 ticks in all, 40 at most
        for (int snap = 30; snap <= 40; snap++) {
            ComesBack x = new World().stick().toss(0, 0, 0, 1, 0, snap, 0).text("lift 0<spin;turn 0;slow 0;").build();
            Check.same("ticks of snap " + snap, x.fly(0, 0), Math.min(40, snap + 6));
            Check.same("down of snap " + snap, x.fly(0, 5), snap + 6 <= 40 ? 1 : 0);
            Check.same("height at 40 of snap " + snap, x.tick(0, 40, 2), snap + 6 < 40 ? -1000000 : Math.min(6, snap + 6 - 40));
            Check.same("no tick 41", x.tick(0, 41, 2), -1000000);
        }
    }

    private static void cutTowardZero() {
        Check.sentence("x and y are more by EAST and NORTH of its WAY times PACE by 64 (cut toward 0)");
        // ways 28 (-59, 24), 36 (-59, -24), 60 (59, -24), 4 (59, 24) of pace 10: 9.2 and 3.75
        int[][] due = {{28, -9, 3}, {36, -9, -3}, {60, 9, -3}, {4, 9, 3}};
        for (int[] d : due) {
            ComesBack x = new World().stick().toss(0, 0, d[0], 10, 0, 0, 0).text(FALL).build();
            Check.same("x of way " + d[0], x.tick(0, 1, 0), d[1]);
            Check.same("y of way " + d[0], x.tick(0, 1, 1), d[2]);
        }
        // pace 1: 59 by 64 is 0, 64 by 64 is 1
        ComesBack slow = new World().stick().toss(0, 0, 36, 1, 0, 0, 0).toss(0, 0, 32, 1, 0, 0, 0).text(FALL).build();
        Check.same("less than one", slow.tick(0, 1, 0), 0);
        Check.same("just one", slow.tick(1, 1, 0), -1);
    }

    private static void heightAtLeast() {
        Check.sentence("its height is UP more, 1 less (0 at least)");
        // from 6: -5 and 1 less is 0 just so, -6 would be below
        int[][] due = {{-4, 1}, {-5, 0}, {-6, 0}, {-9, 0}, {0, 5}, {1, 6}, {9, 14}};
        for (int[] d : due) {
            ComesBack x = new World().stick().toss(0, 0, 0, 1, 0, 0, 0).text("lift 0+(" + d[0] + ");turn 0;slow 0;").build();
            Check.same("height of up " + d[0], x.tick(0, 1, 2), d[1]);
        }
    }

    private static void wayGoesRound() {
        Check.sentence("its WAY is TURN more (modulo 64)");
        int[][] due = {{63, 1, 0}, {62, 1, 63}, {0, -1, 63}, {1, -1, 0}, {60, 8, 4}, {56, 8, 0}, {55, 8, 63}, {3, -8, 59}, {8, -8, 0}, {7, -8, 63}, {63, 0, 63}, {0, 0, 0}};
        for (int[] d : due) {
            ComesBack x = new World().stick().toss(0, 0, d[0], 1, 0, 0, 0).text("lift 0;turn " + d[1] + ";slow 0;").build();
            Check.same("way " + d[0] + " turned " + d[1], x.tick(0, 1, 3), d[2]);
        }
    }

    private static void paceAndSpinAtLeast() {
        Check.sentence("PACE is LESS less, SPIN 1 less (0 at least both)");
        int[][] due = {{10, 9, 1}, {9, 9, 0}, {8, 9, 0}, {1, 9, 0}, {60, 9, 51}, {1, 0, 1}, {1, 1, 0}};
        for (int[] d : due) {
            ComesBack x = new World().stick().toss(0, 0, 0, d[0], 0, 0, 0).text("lift 0;turn 0;slow " + d[1] + ";").build();
            Check.same("pace " + d[0] + ", slowed " + d[1], x.tick(0, 1, 4), d[2]);
            Check.same("and once more", x.tick(0, 2, 4), Math.max(0, d[2] - d[1]));
        }
        for (int snap : new int[] {0, 1, 2, 6, 7, 60}) {
            ComesBack x = still().toss(0, 0, 0, 1, 0, snap, 0).build();
            for (int k = 0; k <= 6; k++) Check.same("spin of " + snap + " at " + k, x.tick(0, k, 5), snap < k ? 0 : snap - k);
        }
    }

    private static void tiltByThrees() {
        Check.sentence("TILT is 1 less (0 at least), if k modulo 3 is 2.");
        for (int slant = 0; slant <= 16; slant++) {
            ComesBack x = new World().stick().toss(0, 0, 0, 1, slant, 0, 0).text("lift 1;turn 0;slow 0;").build();
            int tilt = slant;
            for (int k = 0; k <= 40; k++) {
                Check.same("tilt of " + slant + " at " + k, x.tick(0, k, 6), tilt);
                // behind ticks 2, 5, 8 ..
                if ((k + 1) % 3 == 0 && tilt > 0) tilt--;
            }
            Check.same("lies of " + slant, x.lies(0), slant > 13 ? -1 : 3 * slant);
        }
    }

    private static void eastAndNorth() {
        Check.sentence("EAST of WAYS, by 4 (cut), 0 .. 15");
        Check.sentence("NORTH: that of the one 12 on (round).");
        for (int way = 0; way < 64; way++) {
            int east = (int) (64 * Math.cos(way / 4 * Math.PI / 8) * 1.000001), north = (int) (64 * Math.sin(way / 4 * Math.PI / 8) * 1.000001);
            for (int pace : new int[] {1, 31, 60}) {
                ComesBack x = new World().stick().toss(0, 0, way, pace, 0, 0, 0).text(FALL).build();
                Check.same("x of way " + way, x.tick(0, 1, 0), east * pace / 64);
                Check.same("y of way " + way, x.tick(0, 1, 1), north * pace / 64);
            }
        }
    }

    /** UP, TURN or LESS (what 3 .. 5) at a tick of a throw of a kind, if the law says so much of all three. */
    private static int told(int kind, int more, int k, int what, int said) {
        World w = new World().stick().toss(kind, 0, 0, 60, 0, 60, more).text("lift 0+(" + said + ");turn 0+(" + said + ");slow 0+(" + said + ");");
        // a flight that lasts: it climbs till the tick that is asked
        if (k > 0) w.texts.set(0, "lift 2*(" + (60 - k) + "<spin)+(" + said + ")*(spin<" + (61 - k) + ");turn " + said + ";slow " + said + ";");
        return w.build().why(0, k, what);
    }

    private static void kindThrow() {
        Check.sentence("0 THROW: UP lift (-9 .. 9, else the bound), TURN turn (-8 .. 8), LESS slow (0 .. 9); HIGH 6.");
        for (int kind = 0; kind <= 5; kind++) {
            for (int said = -12; said <= 12; said++) {
                // MORE 12 adds nothing to a ROUND's TURN nor to an UP's UP, and keeps a SHORT from its own
                int up = Math.max(kind == 5 ? -1 : -9, Math.min(9, said)), turn = Math.max(-8, Math.min(8, said)), less = Math.max(0, Math.min(9, said));
                Check.same("UP of kind " + kind + ", lift " + said, told(kind, 12, 0, 3, said), up);
                Check.same("TURN of kind " + kind + ", turn " + said, told(kind, 12, 0, 4, said), turn);
                Check.same("LESS of kind " + kind + ", slow " + said, told(kind, 12, 0, 5, said), less);
            }
        }
        for (int more = 0; more <= 20; more++) {
            Check.same("UP of a THROW, MORE " + more, told(0, more, 0, 3, 5), 5);
            Check.same("TURN of a THROW, MORE " + more, told(0, more, 0, 4, 5), 5);
            Check.same("LESS of a THROW, MORE " + more, told(0, more, 0, 5, 5), 5);
        }
    }

    private static void kindRound() {
        Check.sentence("1 ROUND (a THROW): TURN MORE modulo 3 more.");
        int[] modulo = {0, 1, 2, 0, 1, 2, 0, 1, 2, 0, 1, 2, 0, 1, 2, 0, 1, 2, 0, 1, 2};
        for (int more = 0; more <= 20; more++) {
            for (int kind : new int[] {1, 3, 5}) {
                Check.same("TURN of kind " + kind + ", MORE " + more, told(kind, more, 0, 4, 3), 3 + modulo[more]);
                Check.same("TURN at most of kind " + kind + ", MORE " + more, told(kind, more, 0, 4, 9), 8 + modulo[more]);
                Check.same("TURN at least of kind " + kind + ", MORE " + more, told(kind, more, 0, 4, -9), -8 + modulo[more]);
                Check.same("UP of kind " + kind + ", MORE " + more, told(kind, more, 0, 3, 3), 3);
                Check.same("LESS of kind " + kind + ", MORE " + more, told(kind, more, 0, 5, 3), 3);
            }
            for (int kind : new int[] {0, 2, 4}) Check.same("TURN of kind " + kind + ", MORE " + more, told(kind, more, 0, 4, 3), 3);
        }
    }

    private static void kindShort() {
        Check.sentence("2 SHORT (a THROW): LESS 2 more, unless k is below MORE.");
        for (int more = 0; more <= 20; more++) {
            for (int k : new int[] {0, 1, 19, 20, 21, 40}) {
                Check.same("LESS of a SHORT, MORE " + more + ", at " + k, told(2, more, k, 5, 4), k < more ? 4 : 6);
                Check.same("LESS at most, MORE " + more + ", at " + k, told(2, more, k, 5, 10), k < more ? 9 : 11);
            }
            int last = Math.max(0, more - 1);
            Check.same("just below MORE " + more, told(2, more, last, 5, 0), more == 0 ? 2 : 0);
            Check.same("at MORE " + more, told(2, more, more, 5, 0), 2);
            for (int kind : new int[] {0, 1, 3, 4, 5}) Check.same("LESS of kind " + kind, told(kind, more, more, 5, 4), 4);
        }
    }

    private static void kindOver() {
        Check.sentence("3 OVER (a ROUND): HIGH MORE more.");
        for (int more = 0; more <= 20; more++) {
            for (int kind = 0; kind <= 5; kind++) {
                ComesBack x = still().toss(kind, 0, 0, 1, 0, 0, more).build();
                int high = kind == 3 || kind == 5 ? 6 + more : 6;
                Check.same("HIGH of kind " + kind + ", MORE " + more, x.tossTold(0, 7), high);
                Check.same("height at tick 0", x.tick(0, 0, 2), high);
            }
        }
    }

    private static void kindUp() {
        Check.sentence("4 UP (a THROW): UP MORE modulo 4 more, if k is below 5, else 1 less.");
        int[] modulo = {0, 1, 2, 3, 0, 1, 2, 3, 0, 1, 2, 3, 0, 1, 2, 3, 0, 1, 2, 3, 0};
        for (int more = 0; more <= 20; more++) {
            for (int k : new int[] {0, 4, 5, 6, 40}) {
                Check.same("UP of an UP, MORE " + more + ", at " + k, told(4, more, k, 3, 2), k < 5 ? 2 + modulo[more] : 1);
                Check.same("UP at most, MORE " + more + ", at " + k, told(4, more, k, 3, 10), k < 5 ? 9 + modulo[more] : 8);
                Check.same("UP at least, MORE " + more + ", at " + k, told(4, more, k, 3, -10), k < 5 ? -9 + modulo[more] : -10);
            }
        }
    }

    private static void kindHover() {
        Check.sentence("5 HOVER (an OVER): UP as an OVER's, -1 at least.");
        int[][] due = {{-10, -1}, {-2, -1}, {-1, -1}, {0, 0}, {9, 9}, {10, 9}};
        for (int[] d : due) {
            for (int k : new int[] {0, 5, 40}) Check.same("UP of a HOVER, lift " + d[0] + ", at " + k, told(5, 7, k, 3, d[0]), d[1]);
            Check.same("UP of an OVER, lift " + d[0], told(3, 7, 0, 3, d[0]), Math.max(-9, d[1] < 0 ? d[0] : d[1]));
        }
    }

    private static void comesBack() {
        Check.sentence("It COMES BACK within r, if it is down where x times x and y times y together are no more than r times r.");
        // falls at once at 3 4: 5 off
        ComesBack x = new World().stick().toss(0, 0, 0, 3, 0, 0, 0).text(FALL).wind(4, 0).build();
        Check.same("how far off", x.fly(0, 4), 25);
        for (int r = 0; r <= 99; r++) Check.same("within " + r, x.comes(0, r), r >= 5 ? 1 : 0);
        // at 0 0: within 0
        ComesBack home = new World().stick().toss(0, 0, 4, 1, 0, 0, 0).text(FALL).build();
        Check.same("at home", home.fly(0, 4), 0);
        Check.same("within 0", home.comes(0, 0), 1);
        // at 0 1: within 1, not within 0
        home.wind(1, 0);
        Check.same("one off within 0", home.comes(0, 0), 0);
        Check.same("one off within 1", home.comes(0, 1), 1);
        // at 0 0, but not down
        ComesBack aloft = new World().stick().toss(0, 0, 4, 1, 0, 0, 0).text("lift 1;turn 0;slow 0;").build();
        Check.same("aloft at home", aloft.fly(0, 4), 0);
        Check.same("aloft at home within 99", aloft.comes(0, 99), 0);
    }

    /** The mean of HOW FAR OFF, of some ways with some paces, falls at once. */
    private static long fallenMean(int[] ways, int[] paces) {
        long sum = 0;
        for (int way : ways) {
            for (int pace : paces) sum += new World().stick().toss(0, 0, way, pace, 0, 0, 0).text(FALL).wind(3, 0).build().fly(0, 4);
        }
        return sum;
    }

    private static void hand(int way, int pace, int w, int v, int[] ways, int[] paces) {
        ComesBack x = new World().stick().toss(0, 0, way, pace, 0, 0, 0).text(FALL).wind(3, 0).build();
        long sum = fallenMean(ways, paces), all = (long) ways.length * paces.length;
        String told = "way " + way + ", pace " + pace + ", wandering " + w + ", " + v;
        Check.same(told, x.mean(0, w, v, 0) * all, sum * x.mean(0, w, v, 1));
        Check.holds(told + ", in lowest terms", all % x.mean(0, w, v, 1) == 0);
    }

    private static void handGoesRound() {
        Check.sentence("all WAYS from w less to w more (round)");
        int[] ten = {10};
        hand(0, 10, 3, 0, new int[] {61, 62, 63, 0, 1, 2, 3}, ten);
        hand(0, 10, 1, 0, new int[] {63, 0, 1}, ten);
        hand(2, 10, 3, 0, new int[] {63, 0, 1, 2, 3, 4, 5}, ten);
        hand(3, 10, 3, 0, new int[] {0, 1, 2, 3, 4, 5, 6}, ten);
        hand(63, 10, 1, 0, new int[] {62, 63, 0}, ten);
        hand(63, 10, 3, 0, new int[] {60, 61, 62, 63, 0, 1, 2}, ten);
        hand(60, 10, 3, 0, new int[] {57, 58, 59, 60, 61, 62, 63}, ten);
        hand(61, 10, 3, 0, new int[] {58, 59, 60, 61, 62, 63, 0}, ten);
        hand(33, 10, 0, 0, new int[] {33}, ten);
    }

    private static void handIsBound() {
        Check.sentence("with all PACES from v less to v more (1 .. 60, else the bound), each alike.");
        int[] way = {16};
        hand(16, 1, 0, 3, way, new int[] {1, 1, 1, 1, 2, 3, 4});
        hand(16, 2, 0, 3, way, new int[] {1, 1, 1, 2, 3, 4, 5});
        hand(16, 3, 0, 3, way, new int[] {1, 1, 2, 3, 4, 5, 6});
        hand(16, 4, 0, 3, way, new int[] {1, 2, 3, 4, 5, 6, 7});
        hand(16, 57, 0, 3, way, new int[] {54, 55, 56, 57, 58, 59, 60});
        hand(16, 58, 0, 3, way, new int[] {55, 56, 57, 58, 59, 60, 60});
        hand(16, 60, 0, 3, way, new int[] {57, 58, 59, 60, 60, 60, 60});
        hand(16, 60, 0, 1, way, new int[] {59, 60, 60});
        hand(16, 1, 0, 1, way, new int[] {1, 1, 2});
        hand(0, 1, 3, 3, new int[] {61, 62, 63, 0, 1, 2, 3}, new int[] {1, 1, 1, 1, 2, 3, 4});
        hand(63, 60, 2, 1, new int[] {61, 62, 63, 0, 1}, new int[] {59, 60, 60});
    }

    private static void best() {
        Check.sentence("of WAYS 0, 4, .. 60, of each PACES 2 less, 1 less, as it is, 1, 2 more (1 .. 60, else the bound): the first that ends least far off.");
        // wind 9 for one tick: way 48 (south), as fast as the wind, is best; 2 less and 2 more are reached, 3 not
        int[][] south = {{9, 4809}, {10, 4809}, {11, 4809}, {12, 4810}, {8, 4809}, {7, 4809}, {6, 4808}, {3, 4805}, {2, 4804}, {1, 4803}};
        for (int[] d : south) {
            ComesBack x = new World().stick().toss(0, 0, 5, d[0], 0, 0, 0).text(FALL).wind(9, 0).build();
            Check.same("best of pace " + d[0], x.best(0, 0), d[1]);
            Check.same("best of pace " + d[0] + ", off", x.best(0, 1), (9 - d[1] % 100) * (9 - d[1] % 100));
        }
        // the slower the nearer: 1 at least; at pace 1 all but ways 0, 16, 32, 48 end at home
        for (int pace : new int[] {1, 2, 3}) {
            ComesBack x = new World().stick().toss(0, 0, 5, pace, 0, 0, 0).text(FALL).build();
            Check.same("best of pace " + pace, x.best(0, 0), 401);
        }
        // high up in the greatest wind: the faster the nearer, and 60 at most
        for (int pace = 57; pace <= 60; pace++) {
            ComesBack x = new World().stick().toss(0, 0, 5, pace, 0, 21, 0).text("lift 9-18*(spin=0);turn 0;slow 1;").wind(9, 9).build();
            Check.same("best of pace " + pace, x.best(0, 0), 4800 + Math.min(60, pace + 2));
        }
        // of like ones the first: at home with ways 4, 8, 12 and all paces 1; way 0 is not
        ComesBack alike = new World().stick().toss(0, 0, 63, 1, 0, 0, 0).text(FALL).build();
        Check.same("of like ones the first", alike.best(0, 0), 401);
        Check.same("at home", alike.best(0, 1), 0);
        // of all eighty, each tried
        ComesBack all = new World().stick().toss(0, 0, 0, 20, 0, 0, 0).text("lift 0-2;turn 0-4;slow 0;").wind(8, 0).build();
        int least = Integer.MAX_VALUE, go = -1;
        for (int way = 0; way <= 60; way += 4) {
            for (int pace = 18; pace <= 22; pace++) {
                int off = new World().stick().toss(0, 0, way, pace, 0, 0, 0).text("lift 0-2;turn 0-4;slow 0;").wind(8, 0).build().fly(0, 4);
                if (off < least) {
                    least = off;
                    go = 100 * way + pace;
                }
            }
        }
        Check.same("of all eighty", all.best(0, 0), go);
        Check.same("of all eighty, off", all.best(0, 1), least);
    }

    /** A throw that falls at once if its stick's lift is as told, else floats. */
    private static World wanting(String lift, int[]... pieces) {
        return new World().stick(pieces).toss(0, 0, 0, 10, 0, 0, 0).text("lift 1-10*(" + lift + ");turn 0;slow stick;");
    }

    private static void leastIsBound() {
        Check.sentence("less, then more (0 .. 20)");
        for (int lift = 0; lift <= 20; lift++) {
            for (int wanted = 0; wanted <= 20; wanted++) {
                if (lift == wanted) continue;
                ComesBack x = wanting("stick=" + wanted, new int[] {1, lift, 0, 1}).build();
                boolean near = Math.abs(lift - wanted) <= 3;
                Check.same("lift " + lift + " to " + wanted, x.least(0, 99), near ? wanted : -1);
                Check.same("mended", x.mend(0, 99), near ? wanted : -1);
                Check.same("lift then", x.pieceTold(0, 0, 0), near ? wanted : lift);
            }
            ComesBack above = wanting("20<stick", new int[] {1, lift, 0, 1}).build(), below = wanting("stick<0", new int[] {1, lift, 0, 1}).build();
            Check.same("no lift above 20 from " + lift, above.least(0, 99), -1);
            Check.same("no lift below 0 from " + lift, below.least(0, 99), -1);
        }
        // of drag: two ticks of pace 10, but if drag is as wanted the second one is slowed by 9
        for (int drag = 0; drag <= 20; drag++) {
            for (int wanted = 0; wanted <= 20; wanted++) {
                if (drag == wanted) continue;
                World w = new World().stick(new int[] {1, 0, drag, 1}).toss(0, 0, 0, 10, 0, 0, 0)
                    .text("lift 0-2;turn 0;slow 9*(stick=" + wanted + ");");
                ComesBack x = w.build();
                boolean near = Math.abs(drag - wanted) <= 3;
                Check.same("off at first", x.fly(0, 1), 20);
                Check.same("drag " + drag + " to " + wanted, x.least(0, 11), near ? 100 + wanted : -1);
            }
        }
    }

    private static void leastInOrder() {
        Check.sentence("by 1, then 2, then 3; of these the PIECES by numbers; LIFT, then DRAG; less, then more");
        // any change will do: the first is one less on piece 0's lift
        Check.same("any", wanting("1", new int[] {1, 5, 5, 1}, new int[] {1, 5, 5, 1}).build().least(0, 99), 4);
        Check.same("any, lift 0", wanting("1", new int[] {1, 0, 5, 1}).build().least(0, 99), 1);
        // piece 0's drag by one more (19 to 20, by 20) or piece 1's lift by one less (99, 80 by 20) will do, piece 0's lift will not
        ComesBack drag = new World().stick(new int[] {1, 5, 19, 10}, new int[] {20, 5, 0, 10}).toss(0, 0, 0, 10, 0, 0, 0)
            .text("lift 0-1-(stick<5);turn 0;slow 9*stick;").build();
        Check.same("a piece's drag ahead of the next one's lift", drag.least(0, 29), 120);
        Check.same("any, lift 20", wanting("1", new int[] {1, 20, 5, 1}).build().least(0, 99), 19);
        // 5 and 5 by 2: 6 needs two more, on either piece
        Check.same("the first of like pieces", wanting("stick=6", new int[] {1, 5, 5, 1}, new int[] {1, 5, 5, 1}).build().least(0, 99), 7);
        Check.same("4 needs one less", wanting("stick=4", new int[] {1, 5, 5, 1}, new int[] {1, 5, 5, 1}).build().least(0, 99), 4);
        World two = new World().stick(new int[] {1, 5, 5, 1}, new int[] {2, 5, 5, 1}).toss(0, 0, 0, 10, 0, 0, 0);
        // lifts times out by 2: 7; 8 by piece 1 one more (8.5 cut), or piece 0 by 1 more (8)
        Check.same("the lesser piece first", two.copy().text("lift 1-10*(stick=8);turn 0;slow 0;").build().least(0, 99), 6);
        // 6 by piece 0 less 1 or 2 (7 by 1 .. : 14, 13 by 2), piece 1 less 1 (13 by 2)
        Check.same("the lesser piece, less", two.copy().text("lift 1-10*(stick=6);turn 0;slow 0;").build().least(0, 99), 1004);
        // 9 by piece 1 two more (19), piece 0 three more (18): by 2 comes first
        Check.same("by 2 ahead of by 3", two.copy().text("lift 1-10*(stick=9);turn 0;slow 0;").build().least(0, 99), 1007);
        // 10 by piece 1 three more (21), by nothing else
        Check.same("by 3", two.copy().text("lift 1-10*(stick=10);turn 0;slow 0;").build().least(0, 99), 1008);
        Check.same("by 4 is none", two.copy().text("lift 1-10*(stick=11);turn 0;slow 0;").build().least(0, 99), -1);
    }

    private static void films() {
        Check.sentence("A FLIGHT is UNLIKE at the first TICK of the FILM at which it is elsewhere, or that it has not; a FILM fits it, if there is none.");
        ComesBack x = new World().stick().toss(0, 0, 0, 10, 0, 0, 0).text(STILL).build();
        for (int ticks = 0; ticks <= 40; ticks++) {
            x.sheet(0, 2, 2 * ticks);
            for (int k = 0; k < ticks; k++) x.cell(0, 2 * k, 10 * k);
            // the flight has ticks 0 .. 6
            Check.same("a film of " + ticks + " ticks", x.judge(0, 0), ticks <= 7 ? -1 : 7);
            Check.same("which of " + ticks + " ticks", x.which(0, 0, 0), ticks <= 7 ? 1 : 0);
        }
        for (int k = 0; k < 14; k++) {
            x.film(0, 0);
            x.cell(0, k, 71);
            Check.same("number " + k + " is elsewhere", x.judge(0, 0), k / 2);
        }
        // a flight of 41 ticks has them all but the last on a film
        ComesBack y = new World().stick().toss(0, 0, 0, 1, 0, 0, 0).text("lift 1;turn 0;slow 0;").build();
        y.film(0, 0);
        y.cell(0, 79, 1);
        Check.same("the last number", y.judge(0, 0), 39);
        y.film(0, 0);
        Check.same("fits", y.judge(0, 0), -1);
    }

    private static void hits() {
        Check.sentence("One is HIT at a TICK, if it is no higher than 8, and no more than 2 off in x, nor in y.");
        for (int dx = -4; dx <= 4; dx++) {
            for (int dy = -4; dy <= 4; dy++) {
                ComesBack x = new World().stick().toss(0, 0, 32, 30, 0, 0, 0).text(FALL).person(-30 + dx, 7 + dy).wind(7, 0).build();
                boolean near = dx >= -2 && dx <= 2 && dy >= -2 && dy <= 2;
                Check.same("off by " + dx + " " + dy, x.hit(0), near ? 100 : -1);
            }
        }
        // HIGH 6 .. 26, going 10 a tick and 1 down: at k it is 6 and MORE less k high
        for (int more = 0; more <= 20; more++) {
            for (int k = 0; k <= 6 + more; k++) {
                ComesBack x = still().toss(3, 0, 0, 10, 0, 0, more - more % 3).person(10 * k, 0).build();
                int high = 6 + more - more % 3 - k;
                Check.same("at height " + high, x.hit(0), high >= 0 && high <= 8 ? 100 * k : -1);
            }
        }
        Check.sentence("PEOPLE are numbered from 0 on, 6 at most: each at an x and y (-4000 .. 4000).");
        ComesBack x = still().toss(0, 0, 0, 1, 0, 0, 0).build();
        int[][] corners = {{-4000, -4000}, {-4000, 4000}, {4000, -4000}, {4000, 4000}, {0, 4000}};
        for (int p = 0; p < 5; p++) Check.same("person", x.person(corners[p][0], corners[p][1]), p);
        Check.same("the sixth", x.person(6, 0), 5);
        Check.same("a seventh", x.person(0, 0), -4);
        Check.same("the sixth is hit", x.hit(0), 405);
    }

    private static void sheets() {
        Check.sentence("of sort 0 bytes, 1 shorts, 2 ints, 80 at most.");
        // y of way 16, pace 41, with MORE 7: 43 85 127; of way 48, pace 32: -32 .. -128
        ComesBack x = new World().stick().toss(0, 0, 16, 41, 0, 0, 0).text(STILL).wind(0, 7).build();
        int[][] north = {{127, -1}, {128, 3}, {126, 3}, {-129, -1}, {-128, 3}, {383, -1}, {384, 3}, {0x7fffff7f, -1}, {Integer.MIN_VALUE + 127, -1}};
        for (int[] n : north) {
            x.sheet(0, 0, 8);
            x.cell(0, 3, 43);
            x.cell(0, 5, 85);
            x.cell(0, 7, n[0]);
            Check.same("byte " + n[0] + " as 127", x.judge(0, 0), n[1]);
        }
        ComesBack y = new World().stick().toss(0, 0, 48, 32, 0, 0, 0).text(STILL).build();
        int[][] south = {{-128, -1}, {128, -1}, {127, 4}, {-129, 4}, {-127, 4}, {384, -1}, {-384, -1}, {Integer.MIN_VALUE + 128, -1}};
        for (int[] n : south) {
            y.sheet(0, 0, 10);
            for (int k = 1; k < 4; k++) y.cell(0, 2 * k + 1, -32 * k);
            y.cell(0, 9, n[0]);
            Check.same("byte " + n[0] + " as -128", y.judge(0, 0), n[1]);
        }
        // people show what shorts and ints are up to 4000
        int[][] shorts = {{4000, 1}, {4001, 0}, {-4000, 1}, {-4001, 0}, {65536, 1}, {69536, 1}, {69537, 0}, {-69536, 1}, {-69537, 0}, {32767, 0}, {32768, 0}, {-32768, 0}, {65535, 1},
            {Integer.MAX_VALUE, 1}, {Integer.MIN_VALUE, 1}};
        for (int[] n : shorts) {
            for (int sort = 0; sort < 3; sort++) {
                ComesBack z = new ComesBack();
                z.sheet(3, sort, 2);
                z.cell(3, 1, n[0]);
                int due = sort == 0 ? 1 : sort == 1 ? n[1] : Math.abs((long) n[0]) <= 4000 ? 1 : 0;
                Check.same("number " + n[0] + " of sort " + sort, z.peopleBy(3, sort, 0, 1), due);
            }
        }
        for (int size : new int[] {0, 1, 79, 80}) {
            ComesBack z = new ComesBack();
            Check.same("a sheet of " + size, z.sheet(2, 1, size), 1);
            Check.same("its last of " + size, z.cell(2, size - 1, 5), size == 0 ? -12 : 1);
            Check.same("behind its last of " + size, z.cell(2, size, 5), -12);
        }
    }
}
