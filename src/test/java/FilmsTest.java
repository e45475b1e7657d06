import java.util.Random;

/** Promises 33 to 37: films. */
final class FilmsTest {
    private static int throwsFound, lawsFound, liftsFound, partsFound;

    public static void main(String[] args) {
        straight();
        sorts();
        ends();
        refusals();
        Random any = new Random(41);
        for (int n = 0; n < 300; n++) random(any);
        Check.holds("throws: " + throwsFound, throwsFound > 50);
        Check.holds("laws: " + lawsFound, lawsFound > 50);
        Check.holds("lifts: " + liftsFound, liftsFound > 50);
        Check.holds("parts: " + partsFound, partsFound > 50);
        Check.end();
    }

    private static World plain() {
        return new World().stick().toss(0, 0, 0, 10, 0, 0, 0).toss(0, 0, 16, 10, 0, 0, 0).text("lift 0;turn 0;slow 0;");
    }

    private static void straight() {
        ComesBack x = plain().build();
        Check.same("film", x.film(0, 2), 7);
        Check.same("it fits", x.judge(0, 2), -1);
        Check.same("another is unlike at 1", x.judge(1, 2), 1);
        Check.same("which throws", x.which(0, 2, 0), 1);
        Check.same("i does not matter", x.which(-9, 2, 0), 1);
        Check.same("a film has ints", x.peopleBy(2, 2, 0, 1), 1);
        Check.same("its size is two a tick", x.cell(2, 13, 0), 1);
        Check.same("and no more", x.cell(2, 14, 0), -12);
        Check.same("spoilt at nothing (y was 0)", x.judge(0, 2), -1);
        x.cell(2, 13, 1);
        Check.same("spoilt at tick 6", x.judge(0, 2), 6);
        x.cell(2, 4, 21);
        Check.same("spoilt at tick 2", x.judge(0, 2), 2);
        x.cell(2, 1, 1);
        Check.same("spoilt at tick 0", x.judge(0, 2), 0);
        Check.same("spoilt at tick 0, no throw", x.which(0, 2, 0), 0);
        Check.same("spoilt at tick 0, no law", x.which(0, 2, 1), 0);
        Check.same("a film again", x.film(1, 2), 7);
        Check.same("is a new one", x.which(0, 2, 0), 2);
        Check.same("which laws", x.which(1, 2, 1), 2);
    }

    private static void sorts() {
        ComesBack x = plain().build();
        for (int sort = 0; sort < 3; sort++) {
            x.sheet(sort, sort, 8);
            x.cell(sort, 2, 10);
            x.cell(sort, 4, 20);
            x.cell(sort, 6, 30);
            Check.same("a film of sort " + sort, x.judge(0, sort), -1);
            x.cell(sort, 6, 256 + 30);
            Check.same("bytes are cut", x.judge(0, sort), sort == 0 ? -1 : 3);
            x.cell(sort, 6, 65536 + 30);
            Check.same("shorts are cut", x.judge(0, sort), sort <= 1 ? -1 : 3);
        }
        // x below 0 in bytes
        ComesBack y = new World().stick().toss(0, 0, 32, 10, 0, 0, 0).text("lift 0;turn 0;slow 0;").build();
        y.sheet(0, 0, 4);
        y.cell(0, 2, -10);
        Check.same("bytes are below 0, too", y.judge(0, 0), -1);
    }

    private static void ends() {
        ComesBack x = plain().build();
        x.sheet(0, 2, 0);
        Check.same("an empty film fits", x.judge(0, 0), -1);
        Check.same("an empty film fits all throws", x.which(0, 0, 0), 3);
        Check.same("an empty film fits all laws", x.which(1, 0, 1), 3);
        // ticks 0 .. 7 of a flight that ends with tick 6
        x.sheet(1, 2, 16);
        for (int k = 0; k < 8; k++) x.cell(1, 2 * k, 10 * Math.min(k, 6));
        Check.same("a film goes on behind the flight", x.judge(0, 1), 7);
        ComesBack high = new World().stick().toss(0, 0, 0, 10, 0, 0, 0).text("lift 1;turn 3;slow 0;").build();
        Check.same("forty ticks are flown", high.fly(0, 0), 40);
        Check.same("forty of 41 are filmed", high.film(0, 3), 40);
        Check.same("it fits", high.judge(0, 3), -1);
        Check.same("80 numbers", high.cell(3, 79, high.tick(0, 39, 1)), 1);
        Check.same("it fits still", high.judge(0, 3), -1);
        ComesBack edge = new World().stick().toss(5, 0, 0, 1, 0, 0, 20).text("lift 0;turn 3;slow 0;").build();
        Check.same("ticks", edge.fly(0, 0), 26);
        Check.same("filmed with tick 0", edge.film(0, 0), 27);
    }

    private static void refusals() {
        ComesBack x = new World().stick(new int[] {1, 2, 3, 4}).toss(0, 0, 0, 10, 0, 0, 0).build();
        x.sheet(1, 2, 3);
        x.sheet(2, 2, 4);
        for (int i : new int[] {-1, 1, Integer.MIN_VALUE}) {
            Check.same("judge of no throw", x.judge(i, 9), -5);
            Check.same("film of no throw", x.film(i, 9), -5);
            Check.same("which of no throw", x.which(i, 9, 1), -5);
            Check.same("which of no throw, what ahead of the sheet", x.which(i, 9, 2), -7);
            Check.same("which of no throw, what 0", x.which(i, 2, 0), 0);
            Check.same("read of no throw", x.read(i, 0, 9), -5);
            Check.same("apart of no throw", x.apart(i, 2, 0), ComesBack.NO);
        }
        for (int p : new int[] {-1, 1, 6}) Check.same("read of no piece", x.read(0, p, 9), -5);
        int[][] sheets = {{-1, -2}, {4, -2}, {Integer.MAX_VALUE, -2}, {0, -11}, {1, -2}};
        for (int[] s : sheets) {
            Check.same("judge by sheet " + s[0], x.judge(0, s[0]), s[1]);
            Check.same("which by sheet " + s[0], x.which(0, s[0], 0), s[1]);
            Check.same("which law by sheet " + s[0], x.which(0, s[0], 1), s[1]);
            Check.same("read by sheet " + s[0], x.read(0, 0, s[0]), s[1]);
            Check.same("apart by sheet " + s[0], x.apart(0, s[0], 0), ComesBack.NO);
        }
        Check.same("film to sheet -1", x.film(0, -1), -2);
        Check.same("film to sheet 4", x.film(0, 4), -2);
        Check.same("which, what 2", x.which(0, 9, 2), -7);
        Check.same("which, what -1", x.which(0, 9, -1), -7);
        Check.same("apart, part 2", x.apart(0, 2, 2), ComesBack.NO);
        Check.same("apart, part -1", x.apart(0, 2, -1), ComesBack.NO);
        Check.same("a missing sheet may become a film", x.film(0, 0) > 0 ? 1 : 0, 1);
        // not at 0 0 at tick 0: no flight is so, however it is thrown or filed
        x.sheet(3, 2, 2);
        x.cell(3, 0, 1);
        Check.same("no lift", x.read(0, 0, 3), 0);
        Check.same("no part of it", x.apart(0, 3, 0), 0);
        Check.same("no part of it, below", x.apart(0, 3, 1), 1);
        x.cell(3, 0, 0);
        Check.same("all lifts", x.read(0, 0, 3), (1 << 21) - 1);
        Check.same("49 by a hand", x.apart(0, 3, 0), 49 / 7);
        Check.same("21 lifts, too", x.apart(0, 3, 1), 70 / 7);
        // at 0 0 at ticks 0 and 1: no flight of pace 7 and more is
        Check.same("no part", x.apart(0, 2, 0), 0);
        Check.same("no part, below", x.apart(0, 2, 1), 1);
    }

    private static long gcd(long a, long b) {
        return b == 0 ? a : gcd(b, a % b);
    }

    /** A film of a flight like one of the world, but with something changed. */
    private static World changed(Random any, World w, int i) {
        World v = w.copy();
        int[] t = v.tosses.get(i);
        switch (any.nextInt(4)) {
            case 0: return v.thrown(i, t[2] + any.nextInt(7) - 3, t[3] + any.nextInt(7) - 3);
            case 1:
                int pieces = v.piecesOf(i).size();
                return pieces == 0 ? v : v.filed(i, any.nextInt(pieces), 1, any.nextInt(21));
            case 2:
                v.law = any.nextInt(v.texts.size() + 1);
                return v;
            default: return v;
        }
    }

    /** The film's numbers, of at most so many ticks. */
    private static int[] shot(ComesBack x, int i, int most) {
        int ticks = Math.min(most, Math.min(40, x.fly(i, 0) + 1));
        int[] film = new int[2 * ticks];
        for (int k = 0; k < film.length; k++) film[k] = x.tick(i, k / 2, k % 2);
        return film;
    }

    private static int unlike(ComesBack x, int i, int[] film) {
        for (int k = 0; 2 * k < film.length; k++) {
            if (k > x.fly(i, 0) || x.tick(i, k, 0) != film[2 * k] || x.tick(i, k, 1) != film[2 * k + 1]) return k;
        }
        return -1;
    }

    private static void random(Random any) {
        World w = World.random(any);
        int i = any.nextInt(w.tosses.size());
        int[] film = shot(changed(any, w, i).build(), i, 1 + any.nextInt(any.nextBoolean() ? 40 : 5));
        ComesBack x = w.build();
        x.sheet(1, 2, film.length);
        for (int k = 0; k < film.length; k++) x.cell(1, k, film[k]);
        int fits = 0, laws = 0, lifts = 0;
        for (int j = 0; j < w.tosses.size(); j++) {
            Check.same("judge", x.judge(j, 1), unlike(w.build(), j, film));
            if (unlike(w.build(), j, film) < 0) fits |= 1 << j;
        }
        Check.same("which throws", x.which(any.nextInt(), 1, 0), fits);
        for (int t = 0; t <= w.texts.size(); t++) {
            World v = w.copy();
            v.law = t;
            if (unlike(v.build(), i, film) < 0) laws |= 1 << t;
        }
        Check.same("which laws", x.which(i, 1, 1), laws);
        for (int p = 0; p < w.piecesOf(i).size(); p++) {
            int bits = 0;
            for (int lift = 0; lift <= 20; lift++) if (unlike(w.filed(i, p, 1, lift).build(), i, film) < 0) bits |= 1 << lift;
            Check.same("read", x.read(i, p, 1), bits);
            lifts += Integer.bitCount(bits);
        }
        int hand = 0;
        for (int way = -3; way <= 3; way++) {
            for (int pace = -3; pace <= 3; pace++) {
                if (unlike(w.thrown(i, w.tosses.get(i)[2] + way, w.tosses.get(i)[3] + pace).build(), i, film) < 0) hand++;
            }
        }
        long all = hand + lifts, g = gcd(hand, all);
        Check.same("apart above", x.apart(i, 1, 0), all == 0 ? 0 : hand / g);
        Check.same("apart below", x.apart(i, 1, 1), all == 0 ? 1 : all / g);
        Check.same("nothing asked changes the flight", x.judge(i, 1), unlike(w.build(), i, film));
        if (fits != 0) throwsFound++;
        if (laws != 0) lawsFound++;
        if (lifts != 0) liftsFound++;
        if (hand != 0 && lifts != 0) partsFound++;
    }
}
