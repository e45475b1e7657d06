/** Promises 48 to 52: sheets, people by sheets, what is taken for what. */
final class HostTest {
    public static void main(String[] args) {
        sheets();
        cells();
        copies();
        peopleBy();
        taken();
        Check.end();
    }

    /** Whether a number put into a sheet of a sort is v there (3 .. 60 off 0): a throw that falls at v 0 hits who stands there. */
    private static boolean becomes(int sort, int put, int v) {
        ComesBack x = new World().stick().toss(0, 0, v < 0 ? 32 : 0, Math.abs(v), 0, 0, 0).text("lift 0-9;turn 0;slow 0;").build();
        x.sheet(1, sort, 5);
        x.cell(1, 3, put);
        return x.peopleBy(1, sort, 3, 1) == 1 && x.hit(0) == 100;
    }

    private static void sheets() {
        ComesBack x = new ComesBack();
        int[][] bad = {{-1, 0, 1}, {4, 0, 1}, {0, -2, 1}, {0, 3, 1}, {0, 0, 81}, {0, 2, Integer.MAX_VALUE}, {4, 0, -1}, {0, 3, -1}};
        for (int[] b : bad) Check.same("bad sheet", x.sheet(b[0], b[1], b[2]), ComesBack.BAD);
        Check.same("size -1", x.sheet(0, 0, -1), -14);
        Check.same("size least", x.sheet(0, 2, Integer.MIN_VALUE), -14);
        Check.same("nothing became", x.cell(0, 0, 0), -11);
        Check.same("missing, size does not matter", x.sheet(0, -1, 9999), 1);
        Check.same("missing, of no sheet", x.sheet(4, -1, 0), ComesBack.BAD);
        for (int sort = 0; sort < 3; sort++) {
            Check.same("sheet of 80", x.sheet(sort, sort, 80), 1);
            Check.same("its last", x.cell(sort, 79, 1), 1);
            Check.same("sheet of 0", x.sheet(sort, sort, 0), 1);
            Check.same("it has none", x.cell(sort, 0, 1), -12);
        }
        Check.same("refused, it stays", x.sheet(2, 0, -1), -14);
        Check.same("it is of ints still", x.peopleBy(2, 2, 0, 0), 0);
        Check.same("missing again", x.sheet(2, -1, 0), 1);
        Check.same("it is missing", x.cell(2, 0, 1), -11);
        // a sheet made anew is all 0
        ComesBack y = new World().stick().toss(0, 0, 0, 10, 0, 0, 0).text("lift 0;turn 0;slow 0;").build();
        y.film(0, 0);
        y.sheet(0, 2, 4);
        Check.same("all 0 again", y.judge(0, 0), 1);
        y.cell(0, 0, 7);
        y.sheet(0, 2, 4);
        Check.same("the first, too", y.judge(0, 0), 1);
        y.cell(0, 2, 10);
        Check.same("but what was put", y.judge(0, 0), -1);
    }

    private static void cells() {
        ComesBack x = new ComesBack();
        Check.same("cell of sheet -1", x.cell(-1, 0, 0), ComesBack.BAD);
        Check.same("cell of sheet 4", x.cell(4, 0, 0), ComesBack.BAD);
        Check.same("cell of none", x.cell(0, -1, 0), -11);
        x.sheet(0, 0, 3);
        Check.same("cell -1", x.cell(0, -1, 0), -12);
        Check.same("cell 3", x.cell(0, 3, 0), -12);
        Check.same("cell least", x.cell(0, Integer.MIN_VALUE, 0), -12);
        Check.same("cell 0", x.cell(0, 0, 0), 1);
        Check.same("cell 2", x.cell(0, 2, 0), 1);
        int[][] cut = {{0, 0x1234510a, 10}, {0, 200, -56}, {0, -200, 56}, {0, 256 - 30, -30}, {1, 0x7fff000a, 10}, {1, 65536 - 40, -40},
            {1, -65536 + 40, 40}, {1, 65536 + 30, 30}, {2, -30, -30}, {2, 30, 30}, {0, -30, -30}, {1, -30, -30}};
        for (int[] c : cut) Check.holds("cell of sort " + c[0] + " put " + c[1], becomes(c[0], c[1], c[2]));
        Check.holds("shorts are not cut to bytes", !becomes(1, 256 + 30, 30));
        Check.holds("ints are not cut to shorts", !becomes(2, 65536 + 30, 30));
    }

    /** A sheet of 0 10 20 .., which are also where the film's throw is. */
    private static void row(ComesBack x, int s, int sort, int n) {
        x.sheet(s, sort, n);
        for (int k = 0; k < n; k++) x.cell(s, k, 10 * k);
    }

    private static void copies() {
        ComesBack x = new ComesBack();
        Check.same("copy of sheet -1", x.copy(-1, 0, 0, 0, 0), ComesBack.BAD);
        Check.same("copy to sheet 4", x.copy(0, 0, 4, 0, 0), ComesBack.BAD);
        Check.same("copy of none", x.copy(0, 9, 1, 9, -1), -11);
        row(x, 0, 2, 5);
        Check.same("copy to none", x.copy(0, 9, 1, 9, -1), -11);
        Check.same("copy from none", x.copy(1, 9, 0, 9, -1), -11);
        row(x, 1, 1, 5);
        Check.same("copy of unlike sorts", x.copy(0, 9, 1, 9, -1), -13);
        row(x, 1, 2, 3);
        int[][] outside = {{0, 0, -1}, {-1, 0, 1}, {0, -1, 1}, {5, 0, 1}, {0, 3, 1}, {0, 0, 4}, {3, 0, 3}, {0, 1, 3}, {6, 0, 0}, {0, 4, 0}, {-1, 0, 0},
            {Integer.MAX_VALUE, 0, 1}, {0, 0, Integer.MAX_VALUE}, {Integer.MAX_VALUE, Integer.MAX_VALUE, Integer.MAX_VALUE}, {0, 0, Integer.MIN_VALUE}};
        for (int[] o : outside) Check.same("copy outside", x.copy(0, o[0], 1, o[1], o[2]), -12);
        Check.same("copy of 0 at the ends", x.copy(0, 5, 1, 3, 0), 0);
        Check.same("copy of 3", x.copy(0, 2, 1, 0, 3), 3);
        row(x, 3, 2, 3);
        Check.same("copy to sheet 3", x.copy(0, 2, 3, 0, 3), 3);
        Check.same("copy from sheet 3", x.copy(3, 0, 0, 1, 2), 2);
        ComesBack y = film();
        row(y, 0, 2, 6);
        y.sheet(1, 2, 4);
        Check.same("x of ticks 1", y.copy(0, 1, 1, 2, 1), 1);
        Check.same("a film by copies", y.judge(0, 1), -1);
        // own places, forward and back, as they were: 0 0 10 0 20 0 30 0
        ComesBack z = film();
        z.film(0, 0);
        Check.same("own, forward", z.copy(0, 0, 0, 2, 12), 12);
        Check.same("it stands twice at 0", z.judge(0, 0), 1);
        Check.same("own, back", z.copy(0, 2, 0, 0, 12), 12);
        Check.same("as it was, but for the last", z.judge(0, 0), 6);
        ComesBack b = film();
        for (int sort = 0; sort < 3; sort++) {
            row(b, 0, sort, 3);
            b.sheet(1, sort, 4);
            Check.same("copy of sort " + sort, b.copy(0, 1, 1, 2, 1), 1);
            Check.same("copied of sort " + sort, b.judge(0, 1), -1);
        }
    }

    private static ComesBack film() {
        return new World().stick().toss(0, 0, 0, 10, 0, 0, 0).text("lift 0;turn 0;slow 0;").build();
    }

    private static void peopleBy() {
        ComesBack x = film();
        int[][] bad = {{-1, 0, 0, 0}, {4, 0, 0, 0}, {0, -1, 0, 0}, {0, 3, 0, 0}, {0, 0, 0, -1}, {0, 0, 0, 7}};
        for (int[] b : bad) Check.same("bad people", x.peopleBy(b[0], b[1], b[2], b[3]), ComesBack.BAD);
        Check.same("people by none", x.peopleBy(0, 0, 99, 1), -11);
        x.sheet(0, 2, 7);
        Check.same("people of another sort", x.peopleBy(0, 1, 99, 1), -13);
        int[] row = {9, 30, 0, 4001, 0, 50, 0};
        for (int k = 0; k < row.length; k++) x.cell(0, k, row[k]);
        Check.same("two of three, one is left out", x.peopleBy(0, 2, 1, 3), 2);
        Check.same("two came", x.count(2), 2);
        Check.same("who they are", x.hit(0), 300);
        Check.same("none of none", x.peopleBy(0, 2, 0, 0), 0);
        Check.same("two by two: 50 0 at 5", x.peopleBy(0, 2, 5, 1), 1);
        Check.same("half outside", x.peopleBy(0, 2, 6, 1), -12);
        Check.same("it did not come", x.count(2), 3);
        Check.same("ahead of the outside one came", x.peopleBy(0, 2, 3, 3), -12);
        Check.same("one came ahead", x.count(2), 4);
        for (int at : new int[] {-1, -2, 7, Integer.MAX_VALUE, Integer.MIN_VALUE}) Check.same("outside, " + at, x.peopleBy(0, 2, at, 1), -12);
        x.sheet(1, 0, 12);
        x.sheet(3, 1, 1);
        Check.same("by sheet 3", x.peopleBy(3, 1, 0, 1), -12);
        Check.same("as many as there is room for", x.peopleBy(1, 0, 0, 6), 2);
        Check.same("six", x.count(2), 6);
        Check.same("none more", x.peopleBy(1, 0, 0, 6), 0);
        Check.same("outside, though full", x.peopleBy(1, 0, 2, 6), -12);
    }

    private static void taken() {
        ComesBack x = new ComesBack();
        x.stick();
        x.stick();
        x.piece(1, 1, 1, 1, 1);
        x.piece(1, 1, 1, 1, 1);
        for (int kind = 0; kind < 6; kind++) x.toss(kind, 0, 1, 0, 0);
        int[][] isA = {{1, 0, 0, 0, 0, 0}, {1, 1, 0, 0, 0, 0}, {1, 0, 1, 0, 0, 0}, {1, 1, 0, 1, 0, 0}, {1, 0, 0, 0, 1, 0}, {1, 1, 0, 1, 0, 1}};
        for (int kind = 0; kind < 6; kind++) {
            for (int as = 0; as < 6; as++) Check.same("kind " + kind + " as " + as, x.taken(4 + kind, as), isA[kind][as] == 1 ? kind : -13);
            Check.same("kind " + kind + " as a stick", x.taken(4 + kind, 6), -13);
            Check.same("a stick as kind " + kind, x.taken(1, kind), -13);
        }
        Check.same("a stick without pieces", x.taken(0, 6), 0);
        Check.same("a stick with two", x.taken(1, 6), 2);
        for (int i : new int[] {2, 3, 10, 11}) {
            for (int kind = 0; kind < 7; kind++) Check.same("nothing at " + i, x.taken(i, kind), -11);
        }
        for (int i : new int[] {-1, 12, Integer.MIN_VALUE, Integer.MAX_VALUE}) {
            Check.same("outside", x.taken(i, 0), -12);
            Check.same("bad ahead of outside", x.taken(i, 7), ComesBack.BAD);
        }
        Check.same("kind -1", x.taken(0, -1), ComesBack.BAD);
        Check.same("kind 7", x.taken(2, 7), ComesBack.BAD);
    }
}
