/** Promises 1 to 10: sticks, pieces, wind, throws, counts. */
final class SticksTest {
    public static void main(String[] args) {
        newObject();
        sticks();
        pieces();
        filing();
        told();
        wind();
        tosses();
        tossesTold();
        counts();
        Check.end();
    }

    private static void newObject() {
        ComesBack x = new ComesBack();
        for (int what = 0; what <= 2; what++) Check.same("count " + what + " of a new object", x.count(what), 0);
        Check.same("TEXTS at first", x.count(3), 1);
        Check.same("THE LAW at first", x.count(4), 0);
        Check.same("bytes of THE TAPE at first", x.count(5), 0);
        Check.same("wind at first", x.wind(1, 2), 0);
        for (int s = 0; s < 4; s++) Check.same("a sheet at first", x.cell(s, 0, 1), -11);
        Check.same("no image at first", x.back(), ComesBack.STATE);
        Check.same("no stick at first", x.stickTold(0, 5), -5);
    }

    private static void sticks() {
        ComesBack x = new ComesBack();
        for (int s = 0; s < 4; s++) Check.same("stick", x.stick(), s);
        Check.same("stick, full", x.stick(), ComesBack.FULL);
        Check.same("sticks", x.count(0), 4);
        Check.same("a new stick has no pieces", x.stickTold(3, 5), 0);
    }

    private static void pieces() {
        ComesBack x = new ComesBack();
        Check.same("piece of no stick", x.piece(0, 1, 0, 0, 1), ComesBack.NONE);
        Check.same("piece of no stick, and bad", x.piece(0, 0, -1, -1, 0), ComesBack.NONE);
        x.stick();
        x.stick();
        Check.same("piece of stick -1", x.piece(-1, 1, 0, 0, 1), ComesBack.NONE);
        int[][] bad = {{0, 0, 0, 1}, {21, 0, 0, 1}, {99, 0, 0, 1}, {100, 0, 0, 1}, {121, 0, 0, 1}, {400, 0, 0, 1}, {401, 0, 0, 1},
            {-1, 0, 0, 1}, {-99, 0, 0, 1}, {-101, 0, 0, 1}, {Integer.MIN_VALUE, 0, 0, 1}, {Integer.MAX_VALUE, 0, 0, 1},
            {1, -1, 0, 1}, {1, 21, 0, 1}, {1, 0, -1, 1}, {1, 0, 21, 1}, {1, 0, 0, 0}, {1, 0, 0, 21}, {1, 0, 0, -5}};
        for (int[] b : bad) Check.same("bad piece at " + b[0], x.piece(0, b[0], b[1], b[2], b[3]), ComesBack.BAD);
        Check.same("bad pieces change nothing", x.stickTold(0, 5), 0);
        Check.same("least piece", x.piece(0, 1, 0, 0, 1), 0);
        Check.same("greatest piece", x.piece(0, 320, 20, 20, 20), 1);
        for (int p = 2; p < 6; p++) Check.same("piece", x.piece(0, 101, 1, 2, 3), p);
        Check.same("bad ahead of full", x.piece(0, 0, 1, 2, 3), ComesBack.BAD);
        Check.same("piece, full", x.piece(0, 101, 1, 2, 3), ComesBack.FULL);
        Check.same("full changes nothing", x.stickTold(0, 5), 6);
        Check.same("another stick's pieces are its own", x.piece(1, 101, 1, 2, 3), 0);
    }

    private static void filing() {
        ComesBack x = new ComesBack();
        Check.same("file of no stick", x.file(0, 0, 0, 0), -5);
        x.stick();
        Check.same("file of no piece", x.file(0, 0, 9, 99), -5);
        x.piece(0, 207, 4, 5, 6);
        Check.same("file of piece -1", x.file(0, -1, 0, 0), -5);
        Check.same("file of piece 1", x.file(0, 1, 0, 0), -5);
        Check.same("file of stick 1", x.file(1, 0, 0, 0), -5);
        for (int what : new int[] {-1, 3, 4, 9}) Check.same("file, what " + what, x.file(0, 0, what, 1), -7);
        Check.same("lift -1", x.file(0, 0, 0, -1), -7);
        Check.same("lift 21", x.file(0, 0, 0, 21), -7);
        Check.same("drag -1", x.file(0, 0, 1, -1), -7);
        Check.same("drag 21", x.file(0, 0, 1, 21), -7);
        Check.same("weight 0", x.file(0, 0, 2, 0), -7);
        Check.same("weight 21", x.file(0, 0, 2, 21), -7);
        Check.same("file lift", x.file(0, 0, 0, 20), 4);
        Check.same("file lift again", x.file(0, 0, 0, 0), 20);
        Check.same("file drag", x.file(0, 0, 1, 0), 5);
        Check.same("file drag again", x.file(0, 0, 1, 20), 0);
        Check.same("file weight", x.file(0, 0, 2, 1), 6);
        Check.same("file weight again", x.file(0, 0, 2, 20), 1);
        int[] due = {0, 20, 20, 2, 7};
        for (int what = 0; what < 5; what++) Check.same("filed, " + what, x.pieceTold(0, 0, what), due[what]);
    }

    private static void told() {
        ComesBack x = new ComesBack();
        x.stick();
        x.stick();
        x.piece(1, 310, 8, 1, 5);
        x.piece(1, 112, 6, 2, 7);
        x.piece(1, 305, 3, 0, 9);
        int[][] due = {{8, 1, 5, 3, 10}, {6, 2, 7, 1, 12}, {3, 0, 9, 3, 5}};
        for (int p = 0; p < 3; p++) {
            for (int what = 0; what < 5; what++) Check.same("piece " + p + " told " + what, x.pieceTold(1, p, what), due[p][what]);
        }
        Check.same("piece told, what 5", x.pieceTold(1, 0, 5), -7);
        Check.same("piece told, what -1", x.pieceTold(1, 0, -1), -7);
        Check.same("piece told, no piece", x.pieceTold(1, 3, 9), -5);
        Check.same("piece told, piece -1", x.pieceTold(1, -1, 0), -5);
        Check.same("piece told, no stick", x.pieceTold(2, 0, 0), -5);
        Check.same("piece told, of a stick without", x.pieceTold(0, 0, 0), -5);
        int[] sums = {80 + 72 + 15, 10 + 24, 21, 500 + 7 * 144 + 225, 2, 3};
        for (int what = 0; what < 6; what++) {
            Check.same("stick told " + what, x.stickTold(1, what), sums[what]);
            Check.same("empty stick told " + what, x.stickTold(0, what), 0);
        }
        x.piece(0, 201, 1, 1, 1);
        Check.same("one arm", x.stickTold(0, 4), 1);
        x.piece(0, 302, 1, 1, 1);
        x.piece(0, 303, 1, 1, 1);
        Check.same("two arms", x.stickTold(0, 4), 2);
        x.piece(0, 4, 1, 1, 1);
        x.piece(0, 105, 1, 1, 1);
        Check.same("four arms", x.stickTold(0, 4), 4);
        Check.same("stick told, what 6", x.stickTold(1, 6), -7);
        Check.same("stick told, what -1", x.stickTold(1, -1), -7);
        Check.same("stick told, no stick", x.stickTold(2, 9), -5);
        Check.same("stick told, stick -1", x.stickTold(-1, 0), -5);
    }

    private static void wind() {
        ComesBack x = new ComesBack();
        Check.same("wind", x.wind(3, 9), 0);
        int[][] bad = {{-1, 0}, {10, 0}, {0, -1}, {0, 10}, {Integer.MIN_VALUE, 0}};
        for (int[] b : bad) Check.same("bad wind", x.wind(b[0], b[1]), ComesBack.BAD);
        Check.same("the wind that was", x.wind(9, 0), 39);
        Check.same("the wind that was then", x.wind(0, 0), 90);
    }

    private static void tosses() {
        ComesBack x = new ComesBack();
        Check.same("toss without a stick", x.toss(0, 0, 1, 0, 0), ComesBack.BAD);
        x.stick();
        int[][] bad = {{-1, 0, 1, 0, 0}, {6, 0, 1, 0, 0}, {0, -1, 1, 0, 0}, {0, 1, 1, 0, 0}, {0, 0, 0, 0, 0}, {0, 0, 100, 0, 0},
            {0, 0, 61, 0, 0}, {0, 0, 161, 0, 0}, {0, 0, 6400, 0, 0}, {0, 0, 6401, 0, 0}, {0, 0, -1, 0, 0}, {0, 0, -99, 0, 0},
            {0, 0, 1, 1700, 0}, {0, 0, 1, 61, 0}, {0, 0, 1, 1661, 0}, {0, 0, 1, -1, 0}, {0, 0, 1, -100, 0},
            {0, 0, 1, 0, -1}, {0, 0, 1, 0, 21}, {0, 0, Integer.MIN_VALUE, 0, 0}, {0, 0, 1, Integer.MIN_VALUE, 0}};
        for (int[] b : bad) {
            Check.same("bad toss " + java.util.Arrays.toString(b), x.toss(b[0], b[1], b[2], b[3], b[4]), ComesBack.BAD);
        }
        Check.same("bad tosses change nothing", x.count(1), 0);
        Check.same("least toss", x.toss(0, 0, 1, 0, 0), 0);
        Check.same("greatest toss", x.toss(5, 0, 6360, 1660, 20), 1);
        for (int i = 2; i < 8; i++) Check.same("toss", x.toss(i - 2, 0, 1, 0, 0), i);
        Check.same("bad ahead of full", x.toss(0, 1, 1, 0, 0), ComesBack.BAD);
        Check.same("toss, full", x.toss(0, 0, 1, 0, 0), ComesBack.FULL);
        Check.same("tosses", x.count(1), 8);
        Check.same("the last toss", x.tossTold(7, 0), 5);
        Check.same("no toss behind it", x.tossTold(8, 0), -5);
    }

    private static void tossesTold() {
        ComesBack x = new ComesBack();
        x.stick();
        x.stick();
        int[] high = {6, 6, 6, 15, 6, 15};
        for (int kind = 0; kind < 6; kind++) {
            x.toss(kind, 1, 6359, 1507, 9);
            int[] due = {kind, 1, 63, 59, 15, 7, 9, high[kind]};
            for (int what = 0; what < 8; what++) Check.same("toss told " + what, x.tossTold(kind, what), due[what]);
        }
        Check.same("toss told, what 8", x.tossTold(0, 8), -7);
        Check.same("toss told, what -1", x.tossTold(0, -1), -7);
        Check.same("toss told, no toss", x.tossTold(6, 8), -5);
        Check.same("toss told, toss -1", x.tossTold(-1, 0), -5);
    }

    private static void counts() {
        ComesBack x = new ComesBack();
        x.stick();
        x.stick();
        x.toss(0, 0, 1, 0, 0);
        x.toss(0, 0, 1, 0, 0);
        x.toss(0, 0, 1, 0, 0);
        x.person(0, 0);
        World.text(x, "lift 1;turn 1;slow 1;");
        World.text(x, "lift 1;turn 1;slow 1;");
        x.force(2);
        x.feed(0, 5);
        int[] due = {2, 3, 1, 3, 2, 5};
        for (int what = 0; what < 6; what++) Check.same("count " + what, x.count(what), due[what]);
        Check.same("count 6", x.count(6), ComesBack.BAD);
        Check.same("count -1", x.count(-1), ComesBack.BAD);
    }
}
