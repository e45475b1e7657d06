import java.util.Random;

/** Promises 11 to 13, and what a TEXT means and where its FAULT is. */
final class LawTest {
    public static void main(String[] args) {
        feeding();
        texts();
        forcing();
        values();
        names();
        faults();
        depths();
        randomValues();
        randomFaults();
        Check.end();
    }

    private static void feeding() {
        ComesBack x = new ComesBack();
        for (int n : new int[] {0, -1, 9, Integer.MIN_VALUE, Integer.MAX_VALUE}) Check.same("feed of " + n, x.feed(1, n), ComesBack.BAD);
        Check.same("nothing was fed", x.count(5), 0);
        // "lift 1;turn 1;slow 1;" by eights, highest byte first; bytes above the n lowest do not matter
        Check.same("feed 8", x.feed(0x6c69667420313b74L, 8), 8);
        Check.same("feed 8 more", x.feed(0x75726e20313b736cL, 8), 16);
        Check.same("feed 5 more", x.feed(0x7fffff6f7720313bL, 5), 21);
        Check.same("the tape", x.count(5), 21);
        Check.same("as text", x.text(), 1);
        Check.same("the tape is empty", x.count(5), 0);
        for (int n = 1; n <= 19; n++) Check.same("feed", x.feed(0x2020202020202020L, 8), 8 * n);
        Check.same("feed 7", x.feed(0x2020202020202020L, 7), 159);
        Check.same("feed 2, full", x.feed(0x2020, 2), ComesBack.FULL);
        Check.same("bad ahead of full", x.feed(0x2020, 9), ComesBack.BAD);
        Check.same("full changes nothing", x.count(5), 159);
        Check.same("feed 1", x.feed(0x20, 1), 160);
        Check.same("feed 1, full", x.feed(0x20, 1), ComesBack.FULL);
        Check.same("160 blanks end too early", x.text(), -260);
    }

    private static void texts() {
        ComesBack x = new ComesBack();
        Check.same("an empty tape", x.text(), -100);
        Check.same("a fault empties the tape", World.text(x, "lift 1;turn 1"), -113);
        Check.same("it is empty", x.count(5), 0);
        Check.same("no text came", x.count(3), 1);
        for (int t = 1; t <= 5; t++) Check.same("text", World.text(x, "lift 1;turn 1;slow 1;"), t);
        Check.same("texts", x.count(3), 6);
        World.feed(x, "lift ?");
        Check.same("full ahead of the fault", x.text(), ComesBack.FULL);
        Check.same("then the tape stays", x.count(5), 6);
    }

    private static void forcing() {
        ComesBack x = new ComesBack();
        Check.same("force 1 of 1", x.force(1), ComesBack.BAD);
        Check.same("force -1", x.force(-1), ComesBack.BAD);
        World.text(x, "lift 1;turn 1;slow 1;");
        Check.same("force 1", x.force(1), 0);
        Check.same("the law", x.count(4), 1);
        Check.same("force 1 again", x.force(1), 1);
        Check.same("force 2", x.force(2), ComesBack.BAD);
        Check.same("force 0", x.force(0), 1);
    }

    /** What an expression is as lift at tick 0: speed 20, spin 7, tilt 3, high 6, stick 4, wind 5. */
    private static int value(String e) {
        ComesBack x = new ComesBack();
        x.stick();
        x.piece(0, 10, 9, 3, 20);
        x.toss(0, 0, 20, 307, 0);
        x.wind(5, 3);
        String lift = "lift " + e;
        int t = World.text(x, lift + ";turn 0;slow 0;");
        if (t < 0) return t;
        x.force(t);
        return x.why(0, 0, 0);
    }

    private static void values() {
        Object[][] due = {{"0", 0}, {"9999", 9999}, {"0007", 7}, {"speed", 20}, {"spin", 7}, {"tilt", 3}, {"high", 6}, {"stick", 4},
            {"wind", 5}, {"1+2*3", 7}, {"(1+2)*3", 9}, {"10-3-2", 5}, {"10-(3-2)", 9}, {"-3", -3}, {"--3", 3}, {"-3*-2", 6}, {"2--3", 5},
            {"2+-3", -1}, {"1<2", 1}, {"2<2", 0}, {"3<2", 0}, {"2=2", 1}, {"2=3", 0}, {"1+1=2", 1}, {"2=1+1", 1}, {"1<2*3", 1},
            {"not 0", 1}, {"not 5", 0}, {"not not 5", 1}, {"not 3<2", 1}, {"not 3=3", 0}, {"5 or 0", 1}, {"0 or 0", 0}, {"5 and 7", 1},
            {"5 and 0", 0}, {"1 or 0 and 0", 1}, {"(1 or 0) and 0", 0}, {"not 0 and 0", 0}, {"not (0 and 0)", 1}, {"0 or not 0", 1},
            {"1<2 and 2<3", 1}, {"(1<2)+(2<3)", 2}, {"(4 or 0)*7", 7}, {"9999*9999*9999", 9999 * 9999 * 9999},
            {"-9999*9999*30", -9999 * 9999 * 30}, {"(5)", 5}, {"-speed", -20}, {"- ( 2 + 3 )", -5},
            {"1-1=0", 1}, {"0-1<0", 1}, {"-1", -1}, {"2*-3*2", -12}, {"0-0 or 0-1", 1}, {"-1 and -1", 1}, {"\n7\n", 7}, {"3or 0", 1}};
        for (Object[] d : due) {
            Check.same("lift " + d[0], value((String) d[0]), (Integer) d[1]);
        }
    }

    private static void names() {
        ComesBack x = new World().stick(new int[] {10, 9, 3, 7}, new int[] {112, 5, 8, 7}, new int[] {3, 1, 1, 1})
            .toss(3, 0, 0, 9, 4, 2, 20).wind(2, 7).text("lift stick;turn stick;slow stick;").text("lift high;turn wind;slow spin;")
            .text("lift speed;turn tilt;slow wind*1000+high;").build();
        x.force(1);
        Check.same("stick of lift", x.why(0, 0, 0), (90 + 60 + 3) / 15);
        Check.same("stick of turn", x.why(0, 0, 1), 2);
        Check.same("stick of slow", x.why(0, 0, 2), (30 + 96 + 3) / 15);
        x.force(2);
        Check.same("high", x.why(0, 0, 0), 26);
        Check.same("wind at a height", x.why(0, 0, 1), 2 + 7 * 26 / 20);
        Check.same("spin", x.why(0, 2, 2), 0);
        x.force(3);
        Check.same("speed", x.why(0, 0, 0), 9);
        Check.same("tilt", x.why(0, 3, 1), 3);
        int high = x.tick(0, 3, 2);
        Check.same("wind and high", x.why(0, 3, 2), (2 + 7 * high / 20) * 1000 + high);
        // text 0 is what the document tells
        ComesBack first = new World().stick(new int[] {10, 9, 3, 7}).toss(0, 0, 0, 9, 4, 11, 0).text(World.FIRST).build();
        for (int k = 0; k < 4; k++) {
            for (int what = 0; what < 3; what++) {
                first.force(1);
                int told = first.why(0, k, what);
                first.force(0);
                Check.same("text 0", first.why(0, k, what), told);
            }
        }
        Check.same("lift of text 0", first.why(0, 0, 0), 4 - 6 + 12);
        Check.same("turn of text 0", first.why(0, 0, 1), 2);
        Check.same("turn of text 0, later", first.why(0, 2, 1), 3);
        Check.same("slow of text 0", first.why(0, 0, 2), 1 + 4);
    }

    private static void faults() {
        Object[][] due = {{"", 0}, {"  ", 2}, {"lift", 4}, {"lift ", 5}, {"lift 1", 6}, {"lift 1;", 7}, {"lift 1;turn 1;slow 1;", -1},
            {" lift\n1;turn\n1 ;slow 1; \n", -1}, {"lift 1;turn 1;slow 1", 20}, {"lift 1;turn 1;slow 1; 2", 22}, {"turn 1;lift 1;slow 1;", 0},
            {"lift 1;slow 1;turn 1;", 7}, {"lift1;turn1;slow1;", -1}, {"lifttilt;turn 1;slow 1;", 0}, {"lift tiltt;turn 1;slow 1;", 5}, {"lift tiltz;turn 1;slow 1;", 5}, {"lift atilt;turn 1;slow 1;", 5},
            {"lift tilt0;turn 1;slow 1;", 9}, {"lift 0tilt;turn 1;slow 1;", 6},
            {"lift Tilt;turn 1;slow 1;", 5}, {"lift 12345;turn 1;slow 1;", 5}, {"lift 1234;turn 1;slow 1;", -1}, {"lift 00001;", 5},
            {"lift 1 1;turn 1;slow 1;", 7}, {"lift 1 1 ?", 7}, {"lift ;turn 1;slow 1;", 5}, {"lift 1<2<3;turn 1;slow 1;", 8},
            {"lift 1=2<3;", 8}, {"lift 1+not 1;", 7}, {"lift -not 1;", 6}, {"lift (1;", 7}, {"lift 1);", 6}, {"lift ();", 6}, {"lift 1+;", 7},
            {"lift *1;", 5}, {"lift 1>2;", 6}, {"lift or;", 5}, {"lift 1 or;", 9}, {"lift 1 and or 1;", 11}, {"lift not;", 8},
            {"lift lift;", 5}, {"lift 1 not 1;", 7}, {"lift 1\t;", 6}, {"lift x", 5}, {"lift 1,2;", 6}, {"lift 1;turn 1;slow 1;;", 21},
            {"lift 1;turn 1;slow 1;lift", 21}, {"lift 1;turn 1;slow 1; 12345", 22}, {"lift 1.5;", 6}, {"lift +1;", 5}, {"lift 1 < not 2;", 9}};
        for (Object[] d : due) {
            ComesBack x = new ComesBack();
            int place = (Integer) d[1];
            Check.same("fault of '" + d[0] + "'", World.text(x, (String) d[0]), place < 0 ? 1 : -100 - place);
            Check.same("a second finder of '" + d[0] + "'", FaultFinder.fault((String) d[0]), place);
        }
        ComesBack x = new ComesBack();
        World.feed(x, "lift ");
        x.feed(0x80, 1);
        Check.same("a byte above 127", x.text(), -105);
        World.feed(x, "lift ");
        x.feed(0xe1, 1);
        Check.same("a byte of a letter and 128", x.text(), -105);
    }

    private static void depths() {
        // places behind "lift "; -1: none
        Object[][] due = {{"(((((1)))))", -1}, {"((((((1))))))", 5}, {"-----1", -1}, {"------1", 5}, {"not not not not not 1", -1},
            {"not not not not not not 1", 20}, {"not(-(not 1))", -1}, {"not(-(not(1)))", 9}, {"-1*-1*-1*-1*-1*-1*-1", -1},
            {"(1)+(1)+(1)+(1)+(1)+(1)", -1}, {"not 1 and not 1 and not 1 and not 1 and not 1 and not 1", -1}, {"((((((", 5},
            {"(((((-1)))))", 5}, {"(((((not 1)))))", 5}, {"((((-(1)))))", 5}, {"((((-1*(1)))))", -1}, {"-(((( 1+(1)))))", 8},
            {"-((((1))))+(((((1)))))", -1}, {"not ((((1))))<(((((1)))))", 18}, {"not ((((1)))) or (((((1)))))", -1}};
        for (Object[] d : due) {
            String t = "lift " + d[0] + ";turn 1;slow 1;";
            int want = (Integer) d[1];
            Check.same("depth of '" + d[0] + "'", World.text(new ComesBack(), t), want < 0 ? 1 : -105 - want);
            Check.same("a second finder of '" + d[0] + "'", FaultFinder.fault(t), want < 0 ? -1 : 5 + want);
        }
        ComesBack x = new ComesBack();
        Check.same("each part's own depth", World.text(x, "lift (((((1)))));turn (((((1)))));slow -----1;"), 1);
    }

    /** An expression with its value, by names as of value(). */
    private static final class Made {
        final String text;
        final int value;

        Made(String text, int value) {
            this.text = text;
            this.value = value;
        }
    }

    private static Made make(Random any, int level, int open) {
        String[] names = {"speed", "spin", "tilt", "high", "stick", "wind"};
        int[] values = {20, 7, 3, 6, 4, 5};
        if (level == 5) {
            int choice = any.nextInt(open < 5 ? 8 : 5);
            if (choice < 3) {
                int n = any.nextInt(3) == 0 ? any.nextInt(10000) : any.nextInt(10);
                return new Made("" + n, n);
            }
            if (choice < 5) {
                int n = any.nextInt(6);
                return new Made(names[n], values[n]);
            }
            Made in = make(any, choice < 7 ? 0 : 5, open + 1);
            return choice < 7 ? new Made("(" + in.text + ")", in.value) : new Made("-" + in.text, -in.value);
        }
        if (level == 2 && open < 5 && any.nextInt(5) == 0) {
            Made in = make(any, 2, open + 1);
            return new Made("not " + in.text, in.value == 0 ? 1 : 0);
        }
        Made all = make(any, level + 1, open);
        int more = any.nextInt(10) < 7 ? 0 : level == 2 ? 1 : 1 + any.nextInt(2);
        for (int n = 0; n < more; n++) all = join(any, level, all, make(any, level + 1, open));
        return all;
    }

    private static Made join(Random any, int level, Made a, Made b) {
        boolean other = any.nextBoolean();
        switch (level) {
            case 0: return new Made(a.text + " or " + b.text, a.value != 0 || b.value != 0 ? 1 : 0);
            case 1: return new Made(a.text + " and " + b.text, a.value != 0 && b.value != 0 ? 1 : 0);
            case 2: return other ? new Made(a.text + "<" + b.text, a.value < b.value ? 1 : 0) : new Made(a.text + "=" + b.text, a.value == b.value ? 1 : 0);
            case 3: return other ? new Made(a.text + "+" + b.text, a.value + b.value) : new Made(a.text + "-" + b.text, a.value - b.value);
            default: return new Made(a.text + "*" + b.text, a.value * b.value);
        }
    }

    private static void randomValues() {
        Random any = new Random(11);
        int longOnes = 0;
        for (int n = 0; n < 4000; n++) {
            Made m = make(any, 0, 0);
            if (m.text.length() > 140) continue;
            if (m.text.length() > 40) longOnes++;
            Check.same("lift " + m.text, value(m.text), m.value);
        }
        Check.holds("long expressions were among them", longOnes > 100);
    }

    private static void randomFaults() {
        String[] tokens = {"(", ")", ";", "+", "-", "*", "<", "=", "not ", "or ", "and ", "1", "23 ", "spin ", "tilt ", " ", "\n", "(", "-", "not ",
            "lift ", "turn ", "slow ", "x", "12345", "?", "wind "};
        Random any = new Random(12);
        int good = 0;
        for (int n = 0; n < 40000; n++) {
            StringBuilder t = new StringBuilder();
            // a text that is good, in which one place or none is spoilt
            for (String key : new String[] {"lift ", "turn ", "slow "}) t.append(key).append(make(any, 0, any.nextInt(4)).text).append(";");
            if (t.length() > 150) continue;
            int spoils = any.nextInt(4);
            for (int k = 0; k < spoils; k++) {
                int at = any.nextInt(t.length() + 1);
                String token = tokens[any.nextInt(tokens.length)];
                if (any.nextBoolean()) t.insert(at, token);
                else t.delete(at, Math.min(t.length(), at + 1 + any.nextInt(3)));
            }
            check(t.toString());
            if (FaultFinder.fault(t.toString()) < 0) good++;
        }
        for (int n = 0; n < 5000; n++) {
            StringBuilder t = new StringBuilder("lift ");
            int size = any.nextInt(25);
            for (int k = 0; k < size; k++) t.append(tokens[any.nextInt(20)]);
            check(t.toString());
        }
        Check.holds("good texts were among them: " + good, good > 1000);
    }

    private static void check(String t) {
        if (t.length() > 160) return;
        int place = FaultFinder.fault(t);
        Check.same("'" + t + "'", World.text(new ComesBack(), t), place < 0 ? 1 : -100 - place);
    }
}
