/** A stick that comes back: sticks, throws, flights by a law in a text, films, a park, images. */
public final class ComesBack {
    public static final int NONE = -1, BAD = -2, STATE = -3, FULL = -4;
    public static final long NO = -4611686018427387904L;

    private static final int NO_SUCH = -5, BAD_NUMBER = -7, NO_VALUE = -1000000;
    private static final int NOTHING = -11, OUTSIDE = -12, OTHER_SORT = -13, BELOW_ZERO = -14;
    private static final int NOBODY = -1, FAULT_BASE = -100;

    private static final int MOST_STICKS = 4, MOST_TOSSES = 8, MOST_TEXTS = 6, MOST_SHEETS = 4;
    private static final int MOST_WIND = 9, MOST_FILED = 20, MOST_R = 99, MOST_WANDER = 3;
    private static final int MOST_WIDE = 4000, MOST_HIGH = 999, MOST_DRAWN = 40, MOST_SEED = 99999;
    private static final int LOT_FACTOR = 48271, LOT_MODULUS = 2147483647;
    private static final int GCD_STEPS = 200;
    private static final String FIRST_LAW =
        "lift tilt - 6 + stick ; turn 2 + (spin < 10) ; slow 1 + stick ;";

    private final Stick[] sticks = new Stick[MOST_STICKS];
    private final Toss[] tosses = new Toss[MOST_TOSSES];
    private final Law[] texts = new Law[MOST_TEXTS];
    private final Sheet[] sheets = new Sheet[MOST_SHEETS];
    private final Park park = new Park();
    private final Reader reader = new Reader();
    /** Rows of flights are made once and flown into again, as is the stick that is filed only to see. */
    private final Flight flight = new Flight();
    private final Flight secondFlight = new Flight();
    private final Stick trial = new Stick(-1);
    private int stickCount, tossCount, textCount, law;
    private int ground, more;
    private boolean imageKept;
    private int keptGround, keptMore, keptLaw;

    public ComesBack() {
        for (int s = 0; s < MOST_STICKS; s++) sticks[s] = new Stick(s);
        for (int s = 0; s < MOST_SHEETS; s++) sheets[s] = new Sheet();
        for (int k = 0; k < FIRST_LAW.length(); k++) reader.put((byte) FIRST_LAW.charAt(k));
        texts[0] = reader.toLaw();
        reader.size = 0;
        textCount = 1;
    }

    // ---- sticks, wind, throws

    public int stick() {
        if (stickCount >= MOST_STICKS) return FULL;
        return stickCount++;
    }

    public int piece(int s, int where, int lift, int drag, int weight) {
        Stick to = stickAt(s);
        if (to == null) return NONE;
        int arm = where / 100, out = where % 100;
        if (!within(arm, 0, 3) || !within(out, 1, 20)) return BAD;
        if (!filedWell(Stick.LIFT, lift) || !filedWell(Stick.DRAG, drag)) return BAD;
        if (!filedWell(Stick.WEIGHT, weight)) return BAD;
        if (to.size >= Stick.MOST) return FULL;
        int p = to.size++;
        to.parts[Stick.LIFT][p] = lift;
        to.parts[Stick.DRAG][p] = drag;
        to.parts[Stick.WEIGHT][p] = weight;
        to.parts[Stick.ARM][p] = arm;
        to.parts[Stick.OUT][p] = out;
        return p;
    }

    public int file(int s, int p, int what, int v) {
        Stick of = stickAt(s);
        if (of == null || !of.has(p)) return NO_SUCH;
        if (!within(what, Stick.LIFT, Stick.WEIGHT) || !filedWell(what, v)) return BAD_NUMBER;
        int was = of.parts[what][p];
        of.parts[what][p] = v;
        return was;
    }

    public int pieceTold(int s, int p, int what) {
        Stick of = stickAt(s);
        if (of == null || !of.has(p)) return NO_SUCH;
        if (!within(what, Stick.LIFT, Stick.OUT)) return BAD_NUMBER;
        return of.parts[what][p];
    }

    public int stickTold(int s, int what) {
        Stick of = stickAt(s);
        if (of == null) return NO_SUCH;
        switch (what) {
            case 0: return of.sum(Stick.LIFT, 1);
            case 1: return of.sum(Stick.DRAG, 1);
            case 2: return of.sum(Stick.WEIGHT, 0);
            case 3: return of.sum(Stick.WEIGHT, 2);
            case 4: return of.armsInUse();
            case 5: return of.size;
            default: return BAD_NUMBER;
        }
    }

    public int wind(int v, int more) {
        if (!within(v, 0, MOST_WIND) || !within(more, 0, MOST_WIND)) return BAD;
        int was = 10 * this.ground + this.more;
        this.ground = v;
        this.more = more;
        return was;
    }

    public int toss(int kind, int s, int go, int hold, int more) {
        Stick of = stickAt(s);
        if (of == null || !within(kind, Toss.THROW, Toss.HOVER)) return BAD;
        int way = go / 100, pace = go % 100, slant = hold / 100, snap = hold % 100;
        if (!within(way, 0, Toss.WAYS - 1) || !within(pace, 1, Toss.MOST_PACE)) return BAD;
        if (!within(slant, 0, 16) || !within(snap, 0, 60) || !within(more, 0, 20)) return BAD;
        if (tossCount >= MOST_TOSSES) return FULL;
        tosses[tossCount] = new Toss(kind, of, way, pace, slant, snap, more);
        return tossCount++;
    }

    public int tossTold(int i, int what) {
        Toss t = tossAt(i);
        if (t == null) return NO_SUCH;
        switch (what) {
            case 0: return t.kind;
            case 1: return t.stick.number;
            case 2: return t.way;
            case 3: return t.pace;
            case 4: return t.slant;
            case 5: return t.snap;
            case 6: return t.more;
            case 7: return t.startHeight();
            default: return BAD_NUMBER;
        }
    }

    public int count(int what) {
        switch (what) {
            case 0: return stickCount;
            case 1: return tossCount;
            case 2: return park.size;
            case 3: return textCount;
            case 4: return law;
            case 5: return reader.size;
            default: return BAD;
        }
    }

    // ---- the law

    public int feed(long w, int n) {
        if (!within(n, 1, 8)) return BAD;
        if (reader.size + n > Reader.MOST) return FULL;
        for (int k = n - 1; k >= 0; k--) reader.put((byte) (w >>> (8 * k)));
        return reader.size;
    }

    public int text() {
        if (textCount >= MOST_TEXTS) return FULL;
        Law made = reader.toLaw();
        reader.size = 0;
        if (made == null) return FAULT_BASE - reader.fault;
        texts[textCount] = made;
        return textCount++;
    }

    public int force(int t) {
        if (!within(t, 0, textCount - 1)) return BAD;
        int was = law;
        law = t;
        return was;
    }

    // ---- flights

    public int tick(int i, int k, int what) {
        Toss t = tossAt(i);
        if (t == null || !within(what, Flight.X, Flight.TILT)) return NO_VALUE;
        Flight f = flown(t);
        return within(k, 0, f.last) ? f.rows[what][k] : NO_VALUE;
    }

    public int fly(int i, int what) {
        Toss t = tossAt(i);
        if (t == null || !within(what, 0, 6)) return NO_VALUE;
        Flight f = flown(t);
        switch (what) {
            case 0: return f.last;
            case 1: return f.rows[Flight.X][f.last];
            case 2: return f.rows[Flight.Y][f.last];
            case 3: return f.greatest(Flight.HEIGHT);
            case 4: return f.farOff(f.last);
            case 5: return f.isDown() ? 1 : 0;
            default: return f.farthestOff();
        }
    }

    public int comes(int i, int r) {
        Toss t = tossAt(i);
        if (t == null) return NO_SUCH;
        if (!within(r, 0, MOST_R)) return BAD_NUMBER;
        return flown(t).returns(r) ? 1 : 0;
    }

    public int lies(int i) {
        Toss t = tossAt(i);
        if (t == null) return NO_SUCH;
        return flown(t).firstWith(Flight.TILT, 0);
    }

    public int hovers(int i) {
        Toss t = tossAt(i);
        if (t == null) return NO_SUCH;
        return flown(t).levelTicks();
    }

    public int circle(int i, int what) {
        Toss t = tossAt(i);
        if (t == null || !within(what, 0, 3)) return NO_VALUE;
        Flight f = flown(t);
        switch (what) {
            case 0: return f.greatest(Flight.X) - f.smallest(Flight.X);
            case 1: return f.greatest(Flight.Y) - f.smallest(Flight.Y);
            case 2: return f.turnedInAll();
            default: return f.turnedInAll() / Toss.WAYS;
        }
    }

    public int down(int i, int what) {
        Toss t = tossAt(i);
        if (t == null) return NO_SUCH;
        if (!within(what, 0, 2)) return BAD_NUMBER;
        Flight f = flown(t);
        switch (what) {
            case 0: return f.firstWith(Flight.HEIGHT, f.greatest(Flight.HEIGHT));
            case 1: return f.lastClimb();
            default: return f.deepestDrop();
        }
    }

    public int why(int i, int k, int what) {
        Toss t = tossAt(i);
        if (t == null || !within(what, 0, 5)) return NO_VALUE;
        Flight f = flown(t);
        if (!within(k, 0, f.last)) return NO_VALUE;
        f.look(k);
        switch (what) {
            case 3: return t.up(f.said(Law.LIFT), k);
            case 4: return t.turn(f.said(Law.TURN));
            case 5: return t.less(f.said(Law.SLOW), k);
            default: return f.said(what);
        }
    }

    public int room(int i, int wide, int high) {
        Toss t = tossAt(i);
        if (t == null) return NO_SUCH;
        if (!within(wide, 0, MOST_WIDE) || !within(high, 0, MOST_HIGH)) return BAD_NUMBER;
        return flown(t).firstBeyond(wide, high);
    }

    public int winds(int i, int r) {
        Toss t = tossAt(i);
        if (t == null) return NO_SUCH;
        if (!within(r, 0, MOST_R)) return BAD_NUMBER;
        aim(flight, t);
        int bits = 0;
        for (int v = 0; v <= MOST_WIND; v++) {
            flight.ground = v;
            if (returnsAsAimed(r)) bits |= 1 << v;
        }
        return bits;
    }

    public long paces(int i, int r) {
        Toss t = tossAt(i);
        if (t == null || !within(r, 0, MOST_R)) return NO;
        aim(flight, t);
        long bits = 0;
        for (int pace = 1; pace <= Toss.MOST_PACE; pace++) {
            flight.startPace = pace;
            if (returnsAsAimed(r)) bits |= 1L << pace;
        }
        return bits;
    }

    // ---- odds, the best, what to file

    public long odds(int i, int w, int v, int r, int part) {
        Toss t = tossAt(i);
        if (t == null || !isHand(w, v) || !within(r, 0, MOST_R) || !within(part, 0, 1)) return NO;
        aim(flight, t);
        int all = handSize(w, v), well = 0;
        for (int n = 0; n < all; n++) {
            wander(t, w, v, n);
            if (returnsAsAimed(r)) well++;
        }
        return lowestTerm(well, all, part);
    }

    public long mean(int i, int w, int v, int part) {
        Toss t = tossAt(i);
        if (t == null || !isHand(w, v) || !within(part, 0, 1)) return NO;
        aim(flight, t);
        int all = handSize(w, v);
        long sum = 0;
        for (int n = 0; n < all; n++) {
            wander(t, w, v, n);
            sum += endAsAimed();
        }
        return lowestTerm(sum, all, part);
    }

    public int best(int i, int what) {
        Toss t = tossAt(i);
        if (t == null) return NO_SUCH;
        if (!within(what, 0, 1)) return BAD_NUMBER;
        aim(flight, t);
        int bestGo = NONE, bestOff = 0;
        for (int way = 0; way < Toss.WAYS; way += 4) {
            for (int by = -2; by <= 2; by++) {
                flight.startWay = way;
                flight.startPace = t.paceOff(by);
                int off = endAsAimed();
                if (bestGo == NONE || off < bestOff) {
                    bestOff = off;
                    bestGo = 100 * way + flight.startPace;
                }
            }
        }
        return what == 0 ? bestGo : bestOff;
    }

    public int least(int i, int r) {
        Toss t = tossAt(i);
        if (t == null) return NO_SUCH;
        if (!within(r, 0, MOST_R)) return BAD_NUMBER;
        return leastFiling(t, r);
    }

    public int mend(int i, int r) {
        Toss t = tossAt(i);
        if (t == null) return NO_SUCH;
        if (!within(r, 0, MOST_R)) return BAD_NUMBER;
        int found = leastFiling(t, r);
        if (found >= 0) t.stick.parts[found / 100 % 10][found / 1000] = found % 100;
        return found;
    }

    public int exchange(int i, int r) {
        Toss t = tossAt(i);
        if (t == null) return NO_SUCH;
        if (!within(r, 0, MOST_R)) return BAD_NUMBER;
        aimTrial(t);
        int[] lifts = trial.parts[Stick.LIFT];
        for (int p = 0; p < trial.size; p++) {
            for (int q = p + 1; q < trial.size; q++) {
                int one = lifts[p], other = lifts[q];
                lifts[p] = other;
                lifts[q] = one;
                if (one != other && returnsAsAimed(r)) return 10 * p + q;
                lifts[p] = one;
                lifts[q] = other;
            }
        }
        return NONE;
    }

    public int form(int i, int r) {
        Toss t = tossAt(i);
        if (t == null) return NO_SUCH;
        if (!within(r, 0, MOST_R)) return BAD_NUMBER;
        aimTrial(t);
        for (int lift = 0; lift <= MOST_FILED; lift++) {
            for (int p = 0; p < trial.size; p++) trial.parts[Stick.LIFT][p] = lift;
            if (returnsAsAimed(r)) return lift;
        }
        return NONE;
    }

    public int lead(int i, int what) {
        Toss t = tossAt(i);
        if (t == null) return NO_SUCH;
        if (!within(what, 0, 1)) return BAD_NUMBER;
        aimTrial(t);
        int bestPiece = NONE, bestOff = 0;
        for (int p = 0; p < trial.size; p++) {
            int was = trial.parts[Stick.WEIGHT][p];
            trial.parts[Stick.WEIGHT][p] = MOST_FILED;
            int off = endAsAimed();
            trial.parts[Stick.WEIGHT][p] = was;
            if (bestPiece == NONE || off < bestOff) {
                bestPiece = p;
                bestOff = off;
            }
        }
        return what == 0 ? bestPiece : bestOff;
    }

    // ---- films

    public int judge(int i, int s) {
        Toss t = tossAt(i);
        if (t == null) return NO_SUCH;
        int refused = filmRefused(s);
        if (refused != 0) return refused;
        aim(flight, t);
        return flight.unlikeAt(sheets[s]);
    }

    public int film(int i, int s) {
        Toss t = tossAt(i);
        if (t == null) return NO_SUCH;
        if (!within(s, 0, MOST_SHEETS - 1)) return BAD;
        Flight f = flown(t);
        int ticks = Math.min(f.last + 1, Sheet.MOST / 2);
        Sheet to = sheets[s];
        to.become(Sheet.INTS, 2 * ticks);
        for (int k = 0; k < ticks; k++) {
            to.cells[2 * k] = f.rows[Flight.X][k];
            to.cells[2 * k + 1] = f.rows[Flight.Y][k];
        }
        return ticks;
    }

    public int which(int i, int s, int what) {
        Toss t = tossAt(i);
        if (what == 1 && t == null) return NO_SUCH;
        if (!within(what, 0, 1)) return BAD_NUMBER;
        int refused = filmRefused(s);
        if (refused != 0) return refused;
        return what == 1 && t != null ? lawsThatFit(t, sheets[s]) : tossesThatFit(sheets[s]);
    }

    public int read(int i, int p, int s) {
        Toss t = tossAt(i);
        if (t == null || !t.stick.has(p)) return NO_SUCH;
        int refused = filmRefused(s);
        if (refused != 0) return refused;
        return liftsThatFit(t, p, sheets[s]);
    }

    public long apart(int i, int s, int part) {
        Toss t = tossAt(i);
        if (t == null || filmRefused(s) != 0 || !within(part, 0, 1)) return NO;
        Sheet film = sheets[s];
        aim(flight, t);
        int byHand = 0, byPieces = 0;
        for (int n = 0; n < handSize(MOST_WANDER, MOST_WANDER); n++) {
            wander(t, MOST_WANDER, MOST_WANDER, n);
            if (flight.unlikeAt(film) < 0) byHand++;
        }
        for (int p = 0; p < t.stick.size; p++) byPieces += Integer.bitCount(liftsThatFit(t, p, film));
        int all = byHand + byPieces;
        return all == 0 ? part : lowestTerm(byHand, all, part);
    }

    // ---- a park, two at once

    public int person(int px, int py) {
        if (!park.isPlace(px, py)) return BAD;
        return park.add(px, py) ? park.size - 1 : FULL;
    }

    public int walks(int p, int px, int py) {
        if (!within(p, 0, park.size - 1)) return NONE;
        if (!park.isPlace(px, py)) return BAD;
        park.xs[p] = px;
        park.ys[p] = py;
        return p;
    }

    public int hit(int i) {
        Toss t = tossAt(i);
        if (t == null) return NO_SUCH;
        return park.firstHit(flown(t));
    }

    public long hitOdds(int i, int w, int v, int part) {
        Toss t = tossAt(i);
        if (t == null || !isHand(w, v) || !within(part, 0, 1)) return NO;
        aim(flight, t);
        int all = handSize(w, v), hits = 0;
        for (int n = 0; n < all; n++) {
            wander(t, w, v, n);
            flight.go();
            if (park.firstHit(flight) != NOBODY) hits++;
        }
        return lowestTerm(hits, all, part);
    }

    public int near(int i, int j, int what) {
        Toss one = tossAt(i), other = tossAt(j);
        if (one == null || other == null) return NO_SUCH;
        if (!within(what, 0, 1)) return BAD_NUMBER;
        aim(secondFlight, other);
        secondFlight.go();
        Flight first = flown(one);
        int nearest = first.apartAt(secondFlight, 0), at = 0;
        for (int k = 1; k <= Math.min(first.last, secondFlight.last); k++) {
            int off = first.apartAt(secondFlight, k);
            if (off < nearest) {
                nearest = off;
                at = k;
            }
        }
        return what == 0 ? nearest : at;
    }

    public int mirror(int i, int what) {
        Toss t = tossAt(i);
        if (t == null || !within(what, 0, 2)) return NO_VALUE;
        aim(flight, t);
        flight.startWay = Math.floorMod(-t.way, Toss.WAYS);
        flight.mirrored = true;
        int off = endAsAimed();
        return what == 2 ? off : flight.rows[what][flight.last];
    }

    public int drawn(int i, int seed, int n, int r) {
        Toss t = tossAt(i);
        if (t == null) return NO_SUCH;
        if (!within(seed, 0, MOST_SEED) || !within(n, 0, MOST_DRAWN) || !within(r, 0, MOST_R)) return BAD_NUMBER;
        aim(flight, t);
        long lot = seed + 1L;
        int well = 0;
        for (int k = 0; k < n; k++) {
            lot = lot * LOT_FACTOR % LOT_MODULUS;
            flight.startWay = t.wayOff((int) (lot % 7) - 3);
            lot = lot * LOT_FACTOR % LOT_MODULUS;
            flight.startPace = t.paceOff((int) (lot % 7) - 3);
            if (returnsAsAimed(r)) well++;
        }
        return well;
    }

    public int want(int what, int r) {
        if (!within(what, 0, 1) || !within(r, 0, MOST_R)) return BAD;
        int chosen = NONE, chosenValue = 0;
        for (int i = 0; i < tossCount; i++) {
            Flight f = flown(tosses[i]);
            boolean fit = what == 0 || f.returns(r);
            // the least far off is the greatest when turned below 0: one comparison serves both
            int value = what == 0 ? -f.farOff(f.last) : f.last;
            if (fit && (chosen == NONE || value > chosenValue)) {
                chosen = i;
                chosenValue = value;
            }
        }
        return chosen;
    }

    public int image() {
        // sticks that are not there yet are kept as empty, so that nothing of them comes back
        for (int s = 0; s < MOST_STICKS; s++) sticks[s].keep();
        park.keep();
        keptGround = ground;
        keptMore = more;
        keptLaw = law;
        imageKept = true;
        return stickCount;
    }

    public int back() {
        if (!imageKept) return STATE;
        for (int s = 0; s < MOST_STICKS; s++) sticks[s].restore();
        park.restore();
        ground = keptGround;
        more = keptMore;
        law = keptLaw;
        return stickCount;
    }

    // ---- the host

    public int sheet(int s, int sort, int n) {
        if (!within(s, 0, MOST_SHEETS - 1) || !within(sort, Sheet.MISSING, Sheet.INTS)) return BAD;
        if (sort == Sheet.MISSING) {
            sheets[s].become(Sheet.MISSING, 0);
            return 1;
        }
        if (n > Sheet.MOST) return BAD;
        if (n < 0) return BELOW_ZERO;
        sheets[s].become(sort, n);
        return 1;
    }

    public int cell(int s, int i, int v) {
        if (!within(s, 0, MOST_SHEETS - 1)) return BAD;
        Sheet of = sheets[s];
        if (of.sort == Sheet.MISSING) return NOTHING;
        if (!within(i, 0, of.size - 1)) return OUTSIDE;
        of.cells[i] = of.narrowed(v);
        return 1;
    }

    public int copy(int s, int i, int other, int j, int n) {
        if (!within(s, 0, MOST_SHEETS - 1) || !within(other, 0, MOST_SHEETS - 1)) return BAD;
        Sheet from = sheets[s], to = sheets[other];
        if (from.sort == Sheet.MISSING || to.sort == Sheet.MISSING) return NOTHING;
        if (from.sort != to.sort) return OTHER_SORT;
        if (!from.holds(i, n) || !to.holds(j, n)) return OUTSIDE;
        System.arraycopy(from.cells, i, to.cells, j, n);
        return n;
    }

    public int peopleBy(int s, int sort, int at, int n) {
        if (!within(s, 0, MOST_SHEETS - 1) || !within(sort, Sheet.BYTES, Sheet.INTS)) return BAD;
        if (!within(n, 0, Park.MOST)) return BAD;
        Sheet by = sheets[s];
        if (by.sort == Sheet.MISSING) return NOTHING;
        if (by.sort != sort) return OTHER_SORT;
        int came = 0;
        for (int k = 0; k < n; k++) {
            long place = at + 2L * k;
            if (place < 0 || place + 2 > by.size) return OUTSIDE;
            int px = by.cells[(int) place], py = by.cells[(int) place + 1];
            if (park.isPlace(px, py) && park.add(px, py)) came++;
        }
        return came;
    }

    public int taken(int i, int kind) {
        if (!within(kind, Toss.THROW, Toss.HOVER + 1)) return BAD;
        if (!within(i, 0, MOST_STICKS + MOST_TOSSES - 1)) return OUTSIDE;
        boolean asStick = kind > Toss.HOVER;
        if (i < MOST_STICKS) {
            Stick there = stickAt(i);
            if (there == null) return NOTHING;
            return asStick ? there.size : OTHER_SORT;
        }
        Toss there = tossAt(i - MOST_STICKS);
        if (there == null) return NOTHING;
        return !asStick && there.isA(kind) ? i - MOST_STICKS : OTHER_SORT;
    }

    // ---- what the calls share

    private static boolean within(int v, int from, int to) {
        return v >= from && v <= to;
    }

    private static boolean filedWell(int row, int v) {
        return within(v, row == Stick.WEIGHT ? 1 : 0, MOST_FILED);
    }

    private Stick stickAt(int s) {
        return within(s, 0, stickCount - 1) ? sticks[s] : null;
    }

    private Toss tossAt(int i) {
        return within(i, 0, tossCount - 1) ? tosses[i] : null;
    }

    private void aim(Flight f, Toss t) {
        f.aim(t, texts[law], ground, more);
    }

    /** A flight is aimed with a stick of its own, which may be filed at will. */
    private void aimTrial(Toss t) {
        aim(flight, t);
        trial.become(t.stick);
        flight.stick = trial;
    }

    private Flight flown(Toss t) {
        aim(flight, t);
        flight.go();
        return flight;
    }

    private boolean returnsAsAimed(int r) {
        flight.go();
        return flight.returns(r);
    }

    private int endAsAimed() {
        flight.go();
        return flight.farOff(flight.last);
    }

    private static boolean isHand(int w, int v) {
        return within(w, 0, MOST_WANDER) && within(v, 0, MOST_WANDER);
    }

    private static int handSize(int w, int v) {
        return (2 * w + 1) * (2 * v + 1);
    }

    /** Aims the n-th throw of a hand that wanders by w and v. */
    private void wander(Toss t, int w, int v, int n) {
        // odd, so never 0
        int wide = 2 * v + 1;
        flight.startWay = t.wayOff(n / wide - w);
        flight.startPace = t.paceOff(n % wide - v);
    }

    /** Part 0 above, 1 below the line of above by below, in lowest terms. */
    private static long lowestTerm(long above, long below, int part) {
        long a = above, b = below;
        for (int n = 0; n < GCD_STEPS && b != 0; n++) {
            long rest = a % b;
            a = b;
            b = rest;
        }
        if (a == 0) return NO;
        return (part == 0 ? above : below) / a;
    }

    private int leastFiling(Toss t, int r) {
        aimTrial(t);
        for (int by = 1; by <= 3; by++) {
            // each piece has four changes: lift less, lift more, drag less, drag more
            for (int n = 0; n < 4 * trial.size; n++) {
                int p = n / 4, row = n / 2 % 2;
                int was = trial.parts[row][p];
                int v = n % 2 == 0 ? was - by : was + by;
                if (!filedWell(row, v)) continue;
                trial.parts[row][p] = v;
                if (returnsAsAimed(r)) return 1000 * p + 100 * row + v;
                trial.parts[row][p] = was;
            }
        }
        return NONE;
    }

    /** 0, or why a sheet is no film. */
    private int filmRefused(int s) {
        if (!within(s, 0, MOST_SHEETS - 1)) return BAD;
        if (sheets[s].sort == Sheet.MISSING) return NOTHING;
        return sheets[s].size % 2 == 0 ? 0 : BAD;
    }

    private int tossesThatFit(Sheet film) {
        int bits = 0;
        for (int i = 0; i < tossCount; i++) {
            aim(flight, tosses[i]);
            if (flight.unlikeAt(film) < 0) bits |= 1 << i;
        }
        return bits;
    }

    private int lawsThatFit(Toss t, Sheet film) {
        aim(flight, t);
        int bits = 0;
        for (int n = 0; n < textCount; n++) {
            flight.law = texts[n];
            if (flight.unlikeAt(film) < 0) bits |= 1 << n;
        }
        return bits;
    }

    private int liftsThatFit(Toss t, int p, Sheet film) {
        aimTrial(t);
        int bits = 0;
        for (int lift = 0; lift <= MOST_FILED; lift++) {
            trial.parts[Stick.LIFT][p] = lift;
            if (flight.unlikeAt(film) < 0) bits |= 1 << lift;
        }
        return bits;
    }

    /** A stick's pieces, a row for each thing that is told of them, and what the image keeps of them. */
    private static final class Stick {
        static final int LIFT = 0, DRAG = 1, WEIGHT = 2, ARM = 3, OUT = 4;
        static final int MOST = 6;

        final int number;
        final int[][] parts = new int[OUT + 1][MOST];
        final int[][] kept = new int[WEIGHT + 1][MOST];
        int size, keptSize;

        Stick(int number) {
            this.number = number;
        }

        boolean has(int p) {
            return p >= 0 && p < size;
        }

        /** All of a row together, each times how far out it is as often as told. */
        int sum(int row, int timesOut) {
            int all = 0;
            for (int p = 0; p < size; p++) {
                int one = parts[row][p];
                for (int n = 0; n < timesOut; n++) one *= parts[OUT][p];
                all += one;
            }
            return all;
        }

        int armsInUse() {
            int bits = 0;
            for (int p = 0; p < size; p++) bits |= 1 << parts[ARM][p];
            return Integer.bitCount(bits);
        }

        void become(Stick other) {
            size = other.size;
            for (int row = LIFT; row <= OUT; row++) System.arraycopy(other.parts[row], 0, parts[row], 0, MOST);
        }

        void keep() {
            keptSize = size;
            for (int row = LIFT; row <= WEIGHT; row++) System.arraycopy(parts[row], 0, kept[row], 0, MOST);
        }

        void restore() {
            for (int row = LIFT; row <= WEIGHT; row++) System.arraycopy(kept[row], 0, parts[row], 0, keptSize);
        }
    }

    /** A throw of a kind; what the law says becomes up, turn and less by the kind. */
    private static final class Toss {
        static final int THROW = 0, ROUND = 1, SHORT = 2, OVER = 3, UP = 4, HOVER = 5;
        static final int WAYS = 64, MOST_PACE = 60, START_HEIGHT = 6;
        /** By kinds: ROUND, SHORT and UP are THROWs, an OVER is a ROUND, a HOVER an OVER. */
        private static final int[] KIND_ABOVE = {-1, 0, 0, 1, 0, 3};

        final int kind;
        final Stick stick;
        final int way, pace, slant, snap, more;
        /** Kept, for each tick asks it; of SHORT, UP and HOVER there are no further kinds. */
        private final boolean round;

        Toss(int kind, Stick stick, int way, int pace, int slant, int snap, int more) {
            this.kind = kind;
            this.stick = stick;
            this.way = way;
            this.pace = pace;
            this.slant = slant;
            this.snap = snap;
            this.more = more;
            round = isKind(kind, ROUND);
        }

        boolean isA(int wanted) {
            return isKind(kind, wanted);
        }

        private static boolean isKind(int kind, int wanted) {
            int k = kind;
            for (int n = 0; n < KIND_ABOVE.length && k >= 0 && k < KIND_ABOVE.length; n++) {
                if (k == wanted) return true;
                k = KIND_ABOVE[k];
            }
            return false;
        }

        int startHeight() {
            return isA(OVER) ? START_HEIGHT + more : START_HEIGHT;
        }

        int up(int said, int k) {
            int plain = bound(said, -9, 9);
            if (kind == UP) return k < 5 ? plain + more % 4 : plain - 1;
            return kind == HOVER ? Math.max(-1, plain) : plain;
        }

        int turn(int said) {
            int plain = bound(said, -8, 8);
            return round ? plain + more % 3 : plain;
        }

        int less(int said, int k) {
            int plain = bound(said, 0, 9);
            return kind == SHORT && k >= more ? plain + 2 : plain;
        }

        int wayOff(int by) {
            return Math.floorMod(way + by, WAYS);
        }

        int paceOff(int by) {
            return bound(pace + by, 1, MOST_PACE);
        }

        private static int bound(int v, int from, int to) {
            return Math.max(from, Math.min(to, v));
        }
    }

    /** A text as steps behind their operands: 0 and more is a number, below 0 a name or a sign. */
    private static final class Law {
        static final int LIFT = 0, TURN = 1, SLOW = 2, PARTS = 3;
        static final int SPEED = -1, SPIN = -2, TILT = -3, HIGH = -4, STICK = -5, WIND = -6, NAMES = 6;
        static final int PLUS = -11, MINUS = -12, TIMES = -13, LESS = -14, SAME = -15;
        static final int OR = -16, AND = -17, NOT = -18, NEGATE = -19;

        final int[] steps;
        final int[] starts;

        Law(int[] steps, int[] starts) {
            this.steps = steps;
            this.starts = starts;
        }

        static boolean isName(int step) {
            return step <= SPEED && step >= WIND;
        }

        /** The value of a part, by what the names (speed first) are; the stack is the caller's to use again. */
        int say(int part, int[] names, int[] stack) {
            int top = 0;
            for (int n = starts[part]; n < starts[part + 1]; n++) {
                int step = steps[n];
                if (step >= 0 || isName(step)) {
                    if (top < stack.length) stack[top++] = step >= 0 ? step : names[-1 - step];
                } else if (step == NOT || step == NEGATE) {
                    if (top >= 1) stack[top - 1] = altered(step, stack[top - 1]);
                } else if (top >= 2) {
                    top--;
                    stack[top - 1] = joined(step, stack[top - 1], stack[top]);
                }
            }
            return top >= 1 ? stack[top - 1] : 0;
        }

        private static int altered(int sign, int a) {
            if (sign == NEGATE) return -a;
            return a == 0 ? 1 : 0;
        }

        private static int joined(int sign, int a, int b) {
            switch (sign) {
                case PLUS: return a + b;
                case MINUS: return a - b;
                case TIMES: return a * b;
                case LESS: return a < b ? 1 : 0;
                case SAME: return a == b ? 1 : 0;
                case OR: return a != 0 || b != 0 ? 1 : 0;
                default: return a != 0 && b != 0 ? 1 : 0;
            }
        }
    }

    /** The tape, and how it is read: a token at a time, without going back. */
    private static final class Reader {
        static final int MOST = 160;
        private static final int MOST_OPEN = 5, MOST_DIGITS = 4, NO_FAULT = -1;
        /** The grammar's levels, each made of the next one's; brackets lead from the last to the first. */
        private static final int OR_LEVEL = 0, AND_LEVEL = 1, NOT_LEVEL = 2, SUM_LEVEL = 3, TERM_LEVEL = 4, ONE_LEVEL = 5;
        /** Tokens that are no step of a law; the others are told by the law's own numbers. */
        private static final int END = -30, UNKNOWN = -31, NUMBER = -32, OPEN = -33, CLOSE = -34, SEMICOLON = -35;
        private static final int KEY_LIFT = -40, KEY_TURN = -41, KEY_SLOW = -42;

        final byte[] tape = new byte[MOST];
        int size;
        /** The place of the last text's fault. */
        int fault;
        private final int[] steps = new int[MOST];
        private int stepCount;
        private int at, token, place, number;

        void put(byte one) {
            if (size < MOST) tape[size++] = one;
        }

        /** The tape as a law; null by a fault. */
        Law toLaw() {
            int[] starts = new int[Law.PARTS + 1];
            at = 0;
            stepCount = 0;
            fault = NO_FAULT;
            advance();
            for (int part = 0; part < Law.PARTS && fault == NO_FAULT; part++) {
                starts[part] = stepCount;
                demand(KEY_LIFT - part);
                expression(OR_LEVEL, 0);
                demand(SEMICOLON);
            }
            demand(END);
            if (fault != NO_FAULT) return null;
            starts[Law.PARTS] = stepCount;
            int[] made = new int[stepCount];
            System.arraycopy(steps, 0, made, 0, stepCount);
            return new Law(made, starts);
        }

        /** What stands at a level; open tells how many ( , not and - are. */
        private void expression(int level, int open) {
            if (fault != NO_FAULT) return;
            if (level == NOT_LEVEL) {
                negation(open);
                return;
            }
            if (level >= ONE_LEVEL) {
                single(open);
                return;
            }
            expression(level + 1, open);
            for (int n = 0; n < MOST && fault == NO_FAULT && joins(level); n++) {
                int sign = token;
                advance();
                expression(level + 1, open);
                emit(sign);
            }
        }

        private boolean joins(int level) {
            switch (level) {
                case OR_LEVEL: return token == Law.OR;
                case AND_LEVEL: return token == Law.AND;
                case SUM_LEVEL: return token == Law.PLUS || token == Law.MINUS;
                case TERM_LEVEL: return token == Law.TIMES;
                default: return false;
            }
        }

        private void negation(int open) {
            if (token == Law.NOT) {
                if (open >= MOST_OPEN) {
                    fail();
                    return;
                }
                advance();
                negation(open + 1);
                emit(Law.NOT);
                return;
            }
            expression(SUM_LEVEL, open);
            if (fault != NO_FAULT || (token != Law.LESS && token != Law.SAME)) return;
            int sign = token;
            advance();
            expression(SUM_LEVEL, open);
            emit(sign);
        }

        private void single(int open) {
            if (token == NUMBER || Law.isName(token)) {
                emit(token == NUMBER ? number : token);
                advance();
            } else if (open >= MOST_OPEN) {
                fail();
            } else if (token == Law.MINUS) {
                advance();
                single(open + 1);
                emit(Law.NEGATE);
            } else if (token == OPEN) {
                advance();
                expression(OR_LEVEL, open + 1);
                demand(CLOSE);
            } else {
                fail();
            }
        }

        private void demand(int wanted) {
            if (fault != NO_FAULT) return;
            if (token == wanted) advance();
            else fail();
        }

        private void fail() {
            if (fault == NO_FAULT) fault = place;
        }

        private void emit(int step) {
            if (stepCount < MOST) steps[stepCount++] = step;
        }

        /** The next token; one that is none is UNKNOWN, which can stand nowhere. */
        private void advance() {
            while (at < size && (tape[at] == ' ' || tape[at] == '\n')) at++;
            place = at;
            if (at >= size) {
                token = END;
            } else if (isLetter(tape[at])) {
                while (at < size && isLetter(tape[at])) at++;
                token = wordToken();
            } else if (isDigit(tape[at])) {
                number = 0;
                // a number that is too long may wrap: it is refused all the same
                for (; at < size && isDigit(tape[at]); at++) number = 10 * number + tape[at] - '0';
                token = at - place <= MOST_DIGITS ? NUMBER : UNKNOWN;
            } else {
                token = signToken(tape[at++]);
            }
        }

        private static boolean isLetter(byte b) {
            return b >= 'a' && b <= 'z';
        }

        private static boolean isDigit(byte b) {
            return b >= '0' && b <= '9';
        }

        private static int signToken(byte b) {
            switch (b) {
                case '(': return OPEN;
                case ')': return CLOSE;
                case ';': return SEMICOLON;
                case '+': return Law.PLUS;
                case '-': return Law.MINUS;
                case '*': return Law.TIMES;
                case '<': return Law.LESS;
                case '=': return Law.SAME;
                default: return UNKNOWN;
            }
        }

        private int wordToken() {
            if (spells("speed")) return Law.SPEED;
            if (spells("spin")) return Law.SPIN;
            if (spells("tilt")) return Law.TILT;
            if (spells("high")) return Law.HIGH;
            if (spells("stick")) return Law.STICK;
            if (spells("wind")) return Law.WIND;
            if (spells("or")) return Law.OR;
            if (spells("and")) return Law.AND;
            if (spells("not")) return Law.NOT;
            if (spells("lift")) return KEY_LIFT;
            if (spells("turn")) return KEY_TURN;
            return spells("slow") ? KEY_SLOW : UNKNOWN;
        }

        /** Whether the token from place to at is that word. */
        private boolean spells(String word) {
            if (at - place != word.length()) return false;
            for (int k = 0; k < word.length(); k++) {
                if (tape[place + k] != word.charAt(k)) return false;
            }
            return true;
        }
    }

    /** What a throw is flown with, and what is so at each tick of it. */
    private static final class Flight {
        static final int X = 0, Y = 1, HEIGHT = 2, WAY = 3, PACE = 4, SPIN = 5, TILT = 6;
        static final int MOST_TICKS = 40;
        private static final int[] EAST = {64, 59, 45, 24, 0, -24, -45, -59, -64, -59, -45, -24, 0, 24, 45, 59};

        final int[][] rows = new int[TILT + 1][MOST_TICKS + 1];
        int last;
        Toss toss;
        Stick stick;
        Law law;
        int startWay, startPace, ground, more;
        boolean mirrored;
        private final int[] names = new int[Law.NAMES];
        private final int[] stack = new int[Reader.MOST];
        /** What the name stick means in each part of the law. */
        private final int[] shares = new int[Law.PARTS];

        void aim(Toss thrown, Law by, int ground, int more) {
            toss = thrown;
            stick = thrown.stick;
            law = by;
            startWay = thrown.way;
            startPace = thrown.pace;
            this.ground = ground;
            this.more = more;
            mirrored = false;
        }

        void go() {
            begin();
            for (int k = 0; k < MOST_TICKS && goesOn(); k++) step();
        }

        private void begin() {
            last = 0;
            rows[X][0] = 0;
            rows[Y][0] = 0;
            rows[HEIGHT][0] = toss.startHeight();
            rows[WAY][0] = startWay;
            rows[PACE][0] = startPace;
            rows[SPIN][0] = toss.snap;
            rows[TILT][0] = toss.slant;
            int weight = Math.max(1, stick.sum(Stick.WEIGHT, 0));
            shares[Law.LIFT] = stick.sum(Stick.LIFT, 1) / weight;
            shares[Law.TURN] = stick.armsInUse();
            shares[Law.SLOW] = stick.sum(Stick.DRAG, 1) / weight;
        }

        private boolean goesOn() {
            return last < MOST_TICKS && !isDown();
        }

        private void step() {
            int k = last, next = last + 1;
            look(k);
            int up = toss.up(said(Law.LIFT), k);
            int turn = toss.turn(said(Law.TURN));
            int less = toss.less(said(Law.SLOW), k);
            int way = rows[WAY][k], pace = rows[PACE][k];
            int east = EAST[way / 4], north = EAST[(way / 4 + 12) % 16];
            rows[X][next] = rows[X][k] + east * pace / 64;
            rows[Y][next] = rows[Y][k] + north * pace / 64 + windAt(rows[HEIGHT][k]);
            rows[HEIGHT][next] = Math.max(0, rows[HEIGHT][k] + up - 1);
            rows[WAY][next] = Math.floorMod(mirrored ? way - turn : way + turn, Toss.WAYS);
            rows[PACE][next] = Math.max(0, pace - less);
            rows[SPIN][next] = Math.max(0, rows[SPIN][k] - 1);
            rows[TILT][next] = Math.max(0, rows[TILT][k] - (k % 3 == 2 ? 1 : 0));
            last = next;
        }

        private int windAt(int height) {
            return ground + more * height / 20;
        }

        /** The law's names become what is so at a tick. */
        void look(int k) {
            names[-1 - Law.SPEED] = rows[PACE][k];
            names[-1 - Law.SPIN] = rows[SPIN][k];
            names[-1 - Law.TILT] = rows[TILT][k];
            names[-1 - Law.HIGH] = rows[HEIGHT][k];
            names[-1 - Law.WIND] = windAt(rows[HEIGHT][k]);
        }

        /** What the law says of a part at the tick that was looked at. */
        int said(int part) {
            names[-1 - Law.STICK] = shares[part];
            return law.say(part, names, stack);
        }

        boolean isDown() {
            return rows[HEIGHT][last] == 0;
        }

        int farOff(int k) {
            return rows[X][k] * rows[X][k] + rows[Y][k] * rows[Y][k];
        }

        boolean returns(int r) {
            return isDown() && farOff(last) <= r * r;
        }

        int farthestOff() {
            int most = 0;
            for (int k = 0; k <= last; k++) most = Math.max(most, farOff(k));
            return most;
        }

        int greatest(int row) {
            int most = rows[row][0];
            for (int k = 1; k <= last; k++) most = Math.max(most, rows[row][k]);
            return most;
        }

        int smallest(int row) {
            int least = rows[row][0];
            for (int k = 1; k <= last; k++) least = Math.min(least, rows[row][k]);
            return least;
        }

        int firstWith(int row, int value) {
            for (int k = 0; k <= last; k++) {
                if (rows[row][k] == value) return k;
            }
            return NONE;
        }

        int levelTicks() {
            int level = 0;
            for (int k = 1; k <= last; k++) {
                if (rows[HEIGHT][k] > 0 && rows[HEIGHT][k] == rows[HEIGHT][k - 1]) level++;
            }
            return level;
        }

        int turnedInAll() {
            int all = 0;
            for (int k = 1; k <= last; k++) {
                int by = rows[WAY][k] - rows[WAY][k - 1];
                all += Math.floorMod(by + Toss.WAYS / 2, Toss.WAYS) - Toss.WAYS / 2;
            }
            return all;
        }

        int lastClimb() {
            int at = NONE;
            for (int k = 1; k <= last; k++) {
                if (rows[HEIGHT][k] > rows[HEIGHT][k - 1]) at = k;
            }
            return at;
        }

        int deepestDrop() {
            int most = 0;
            for (int k = 1; k <= last; k++) most = Math.max(most, rows[HEIGHT][k - 1] - rows[HEIGHT][k]);
            return most;
        }

        int firstBeyond(int wide, int high) {
            for (int k = 0; k <= last; k++) {
                boolean out = Math.abs(rows[X][k]) > wide || Math.abs(rows[Y][k]) > wide;
                if (out || rows[HEIGHT][k] > high) return k;
            }
            return NONE;
        }

        int apartAt(Flight other, int k) {
            int x = rows[X][k] - other.rows[X][k], y = rows[Y][k] - other.rows[Y][k];
            int z = rows[HEIGHT][k] - other.rows[HEIGHT][k];
            return x * x + y * y + z * z;
        }

        /** The first tick at which it is unlike a film, or -1; it is flown no further than that. */
        int unlikeAt(Sheet film) {
            begin();
            for (int k = 0; k < film.size / 2; k++) {
                if (k > 0) {
                    if (!goesOn()) return k;
                    step();
                }
                if (rows[X][k] != film.cells[2 * k] || rows[Y][k] != film.cells[2 * k + 1]) return k;
            }
            return NONE;
        }
    }

    /** A row of numbers of a sort; its cells are ints that hold no more than the sort does. */
    private static final class Sheet {
        static final int MISSING = -1, BYTES = 0, SHORTS = 1, INTS = 2;
        static final int MOST = 80;

        final int[] cells = new int[MOST];
        int sort = MISSING;
        int size;

        void become(int sort, int size) {
            this.sort = sort;
            this.size = size;
            for (int k = 0; k < MOST; k++) cells[k] = 0;
        }

        int narrowed(int v) {
            if (sort == BYTES) return (byte) v;
            return sort == SHORTS ? (short) v : v;
        }

        boolean holds(int from, int n) {
            return from >= 0 && n >= 0 && (long) from + n <= size;
        }
    }

    /** People, and where the image keeps them. */
    private static final class Park {
        static final int MOST = 6;
        private static final int FARTHEST = 4000, HIT_HEIGHT = 8, HIT_OFF = 2;

        final int[] xs = new int[MOST], ys = new int[MOST];
        int size;
        private final int[] keptXs = new int[MOST], keptYs = new int[MOST];
        private int keptSize;

        boolean isPlace(int x, int y) {
            return x >= -FARTHEST && x <= FARTHEST && y >= -FARTHEST && y <= FARTHEST;
        }

        boolean add(int x, int y) {
            if (size >= MOST) return false;
            xs[size] = x;
            ys[size] = y;
            size++;
            return true;
        }

        int firstHit(Flight f) {
            for (int k = 0; k <= f.last; k++) {
                if (f.rows[Flight.HEIGHT][k] > HIT_HEIGHT) continue;
                int x = f.rows[Flight.X][k], y = f.rows[Flight.Y][k];
                for (int p = 0; p < size; p++) {
                    if (Math.abs(x - xs[p]) <= HIT_OFF && Math.abs(y - ys[p]) <= HIT_OFF) return 100 * k + p;
                }
            }
            return NOBODY;
        }

        void keep() {
            keptSize = size;
            System.arraycopy(xs, 0, keptXs, 0, MOST);
            System.arraycopy(ys, 0, keptYs, 0, MOST);
        }

        void restore() {
            System.arraycopy(keptXs, 0, xs, 0, keptSize);
            System.arraycopy(keptYs, 0, ys, 0, keptSize);
        }
    }
}
