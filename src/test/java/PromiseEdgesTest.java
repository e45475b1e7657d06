/** The promises, sentence by sentence: what they answer at the ends, of the empty and of the full, and on both sides of a turn. */
final class PromiseEdgesTest {
    private static final String STILL = "lift 0;turn 0;slow 0;", FALL = "lift 0-9;turn 0;slow 0;";
    private static final int ALL_LIFTS = (1 << 21) - 1;

    public static void main(String[] args) {
        newObject();
        stickTold();
        windTold();
        feed();
        textNumbers();
        fault();
        bytes();
        nesting();
        force();
        values();
        fly();
        lies();
        hovers();
        circle();
        down();
        why();
        room();
        winds();
        paces();
        odds();
        mean();
        exchange();
        form();
        lead();
        film();
        which();
        read();
        apart();
        hit();
        near();
        mirror();
        drawn();
        want();
        images();
        copy();
        peopleBy();
        answersBehindRefusals();
        Check.end();
    }

    private static World still() {
        return new World().stick().text(STILL);
    }

    /** A throw that falls at once, of a way and a pace. */
    private static World fall(int way, int pace) {
        return new World().stick().toss(0, 0, way, pace, 0, 0, 0).text(FALL);
    }

    private static void newObject() {
        Check.sentence("`ComesBack()`: No STICKS, THROWS, PEOPLE.");
        ComesBack x = new ComesBack(), other = new ComesBack();
        x.stick();
        x.toss(0, 0, 1, 0, 0);
        x.person(0, 0);
        x.feed(97, 1);
        x.sheet(0, 0, 1);
        x.image();
        Check.same("another object's sticks", other.count(0), 0);
        Check.same("another object's throws", other.count(1), 0);
        Check.same("another object's people", other.count(2), 0);
        Check.same("another object's tape", other.count(5), 0);
        Check.same("another object's sheets", other.cell(0, 0, 0), -11);
        Check.same("another object's image", other.back(), -3);
    }

    private static void stickTold() {
        Check.sentence("0 all LIFTS times how far OUT, 1 all DRAGS likewise, 2 all WEIGHTS, 3 all WEIGHTS times how far OUT, twice, 4 how many ARMS have a PIECE, 5 how many PIECES.");
        ComesBack x = new ComesBack();
        x.stick();
        for (int what = 0; what < 6; what++) Check.same("of no pieces, " + what, x.stickTold(0, what), 0);
        for (int p = 0; p < 6; p++) x.piece(0, 320, 20, 20, 20);
        int[] most = {6 * 400, 6 * 400, 120, 6 * 8000, 1, 6};
        for (int what = 0; what < 6; what++) Check.same("of the greatest pieces, " + what, x.stickTold(0, what), most[what]);
        x.stick();
        int[] arms = {3, 3, 0, 2, 0, 1}, used = {1, 1, 2, 3, 3, 4};
        for (int p = 0; p < 6; p++) {
            x.piece(1, 100 * arms[p] + 1, 0, 0, 1);
            Check.same("arms of " + (p + 1) + " pieces", x.stickTold(1, 4), used[p]);
        }
        int[] least = {0, 0, 6, 6, 4, 6};
        for (int what = 0; what < 6; what++) Check.same("of the least pieces, " + what, x.stickTold(1, what), least[what]);
    }

    private static void windTold() {
        Check.sentence("WIND and MORE: 10 times the WIND that was, and the MORE. BAD.");
        ComesBack x = new ComesBack();
        int[][] due = {{9, 9, 0}, {0, 9, 99}, {9, 0, 9}, {0, 0, 90}, {1, 0, 0}};
        for (int[] d : due) {
            Check.same("wind that was", x.wind(d[0], d[1]), d[2]);
            Check.same("refused", x.wind(10, d[1]), -2);
            Check.same("refused", x.wind(d[0], -1), -2);
        }
    }

    private static void feed() {
        Check.sentence("The n lowest bytes of w, the highest first, come behind THE TAPE's: how many it has. BAD: n not 1 .. 8; FULL.");
        // "lift 0;turn 0;slow 0;" in pieces of n bytes, with other bytes ahead of them in w
        String text = "lift 0;turn 0;slow 0; \n ";
        for (int n = 1; n <= 8; n++) {
            ComesBack x = new ComesBack();
            for (int at = 0; at < text.length(); at += n) {
                long w = 0x7aL;
                int size = Math.min(n, text.length() - at);
                for (int k = 0; k < size; k++) w = w << 8 | text.charAt(at + k);
                Check.same("fed by " + n, x.feed(w, size), at + size);
            }
            Check.same("read of " + n, x.text(), 1);
        }
        for (int n = 1; n <= 8; n++) {
            ComesBack x = new ComesBack();
            for (int k = 0; k < 20; k++) x.feed(0x2020202020202020L, 8);
            Check.same("160 bytes", x.count(5), 160);
            Check.same("and " + n + " more", x.feed(0, n), -4);
            x.text();
            for (int k = 0; k < 160 - n; k++) x.feed(32, 1);
            Check.same("the last " + n, x.feed(0x2020202020202020L, n), 160);
            x.text();
            for (int k = 0; k < 161 - n; k++) x.feed(32, 1);
            Check.same("one too many of " + n, x.feed(0x2020202020202020L, n), -4);
            Check.same("then the tape is as it was", x.count(5), 161 - n);
        }
    }

    private static void textNumbers() {
        Check.sentence("THE TAPE, which is empty then (by a FAULT, too), is a TEXT: its number; -100 less the place of its FAULT. FULL (ahead of the FAULT; then THE TAPE stays).");
        ComesBack x = new ComesBack();
        for (int t = 1; t <= 5; t++) {
            Check.same("a fault", World.text(x, "lift 0;turn 0;slow 0"), -120);
            Check.same("tape behind a fault", x.count(5), 0);
            Check.same("text", World.text(x, "lift " + t + ";turn 0;slow 0;"), t);
            Check.same("tape behind a text", x.count(5), 0);
        }
        Check.same("texts", x.count(3), 6);
        Check.same("the law stays", x.count(4), 0);
        Check.same("full, empty tape", x.text(), -4);
        World.feed(x, STILL);
        Check.same("full, a good one", x.text(), -4);
        Check.same("its tape stays", x.count(5), STILL.length());
        World.feed(x, "?");
        Check.same("full, a fault", x.text(), -4);
        Check.same("its tape stays, too", x.count(5), STILL.length() + 1);
        // each keeps what it says
        x.stick();
        x.toss(0, 0, 1, 0, 0);
        for (int t = 1; t <= 5; t++) {
            x.force(t);
            Check.same("lift of text " + t, x.why(0, 0, 0), t);
        }
        // just as long as a tape may be
        String longest = "lift 1" + "+1".repeat(69) + ";turn 0;slow 0;";
        longest = longest + " ".repeat(160 - longest.length());
        ComesBack y = new ComesBack();
        Check.same("160 bytes", World.text(y, longest), 1);
        Check.same("162 bytes, of which 160 come", World.text(y, "lift 1" + "+1".repeat(69) + "+12;turn 0;slow 0;"), -260);
        String full = "lift 1" + "+1".repeat(68) + "+12" + ";turn 0;slow 0;";
        Check.same("its size", full.length(), 160);
        Check.same("160 bytes, all of them", World.text(y, full), 2);
        y.stick();
        y.toss(0, 0, 1, 0, 0);
        y.force(1);
        Check.same("its lift", y.why(0, 0, 0), 70);
        y.force(2);
        Check.same("the other one's lift", y.why(0, 0, 0), 81);
    }

    private static void faultAt(String text, int place) {
        ComesBack x = new ComesBack();
        Check.same("'" + text + "'", World.text(x, text), place < 0 ? 1 : -100 - place);
        Check.same("texts behind '" + text + "'", x.count(3), place < 0 ? 2 : 1);
    }

    private static void fault() {
        Check.sentence("the place of the first byte of the first TOKEN that can't stand there (the text's size, if it ends too early)");
        // a good text, cut at each place: it ends too early, or there within a word
        String good = "lift tilt - 6 ;turn 2 ;slow 1 ;";
        for (int size = 0; size < good.length(); size++) {
            String cut = good.substring(0, size);
            boolean inWord = size > 0 && Character.isLetter(good.charAt(size)) && Character.isLetter(good.charAt(size - 1));
            faultAt(cut, inWord ? cut.replaceFirst("[a-z]+$", "").length() : size);
            faultAt(cut + "  \n", inWord ? cut.replaceFirst("[a-z]+$", "").length() : size + 3);
        }
        faultAt(good, -1);
        faultAt("\n " + good + " \n", -1);
        faultAt(good + "0", good.length());
        faultAt(good + " lift", good.length() + 1);
        Check.sentence("WORDS (as many letters a .. z as stand there), NUMBERS (as many digits as stand there; more than 4 are too long)");
        String[] numbers = {"0", "9", "10", "99", "999", "0000", "9999"};
        for (String n : numbers) faultAt("lift " + n + ";turn " + n + ";slow " + n + ";", -1);
        for (String n : new String[] {"00000", "10000", "99999", "123456", "4294967296", "99999999999999999999"}) {
            faultAt("lift " + n + ";turn 0;slow 0;", 5);
            faultAt("lift 0;turn 0;slow " + n + ";", 19);
        }
        for (String key : new String[] {"lift", "turn", "slow", "and", "or", "a", "z", "az", "speeds", "spee", "spintilt", "notspin", "winds", "not0"}) {
            faultAt("lift " + key + ";turn 0;slow 0;", key.equals("not0") ? -1 : 5);
        }
        for (String name : new String[] {"speed", "spin", "tilt", "high", "stick", "wind"}) faultAt("lift " + name + ";turn -" + name + ";slow not " + name + ";", -1);
        Check.sentence("NOT: not NOT, or SUM, perhaps < or = and a SUM.");
        faultAt("lift 1<2;turn 1=2;slow 1<2 or 1=2;", -1);
        faultAt("lift 1<2<3;turn 0;slow 0;", 8);
        faultAt("lift 1=2=3;turn 0;slow 0;", 8);
        faultAt("lift (1<2)<3;turn 1=(2<3);slow 0;", -1);
        faultAt("lift not 1<2;turn not not 1=2;slow 0;", -1);
        faultAt("lift 1<not 2;turn 0;slow 0;", 7);
        faultAt("lift 1+not 2;turn 0;slow 0;", 7);
        faultAt("lift -not 2;turn 0;slow 0;", 6);
        faultAt("lift 1+(not 2);turn -(not 2);slow 0;", -1);
    }

    /** Each of the 256 bytes, where a ONE is due, and behind one. */
    private static void bytes() {
        Check.sentence("also of a byte that begins none");
        for (int b = 0; b < 256; b++) {
            char c = (char) b;
            boolean blank = b == 32 || b == 10, digit = c >= '0' && c <= '9', signAhead = c == '(' || c == '-';
            boolean signBehind = b < 128 && "+-*<=;".indexOf(c) >= 0;
            faultAt("lift " + c, blank || digit || signAhead ? 6 : 5);
            faultAt("lift 1 " + c, blank || signBehind ? 8 : 7);
            faultAt("lift 1;turn 1;slow 1;" + c, blank ? -1 : 21);
            faultAt(c + "lift 1;turn 1;slow 1;", blank ? -1 : 0);
            // right behind a word or a number: it ends them, but where it is one more of them
            boolean letter = c >= 'a' && c <= 'z';
            faultAt("lift tilt" + c + ";turn 1;slow 1;", blank ? -1 : letter ? 5 : signBehind ? 10 : 9);
            faultAt("lift 1234" + c + ";turn 1;slow 1;", blank ? -1 : digit ? 5 : signBehind ? 10 : 9);
        }
    }

    private static void nesting() {
        Check.sentence("a ( , a not, a - ahead of a ONE while 5 of these are open (a ( till its ) , not and - till what they belong to ends).");
        String[] openers = {"(", "not ", "-"};
        // all ways to open 6: those that the grammar lets in fail at the sixth; without the sixth they are well
        for (int n = 0; n < 729; n++) {
            StringBuilder text = new StringBuilder("lift "), five = new StringBuilder(), closing = new StringBuilder(";turn 0;slow 0;");
            int left = n, place = 0;
            String last = "(";
            boolean well = true;
            for (int k = 0; k < 6; k++) {
                String opener = openers[left % 3];
                left /= 3;
                // behind a - there is no NOT
                if (opener.equals("not ") && last.equals("-")) well = false;
                if (k == 5) {
                    five.append(text).append('1').append(closing);
                    place = text.length();
                }
                text.append(opener);
                if (opener.equals("(")) closing.insert(0, ')');
                last = opener;
            }
            if (!well) continue;
            faultAt(text.append('1').append(closing).toString(), place);
            faultAt(five.toString(), -1);
        }
        // what has ended is open no more; a - between TERMS never is
        faultAt("lift (((((1)))))*(((((2)))))-(((((3)))));turn 0;slow 0;", -1);
        faultAt("lift -----1--(--1)+---1;turn 0;slow 0;", -1);
        faultAt("lift not not not not not 1 or not not not not not 1;turn 0;slow 0;", -1);
        faultAt("lift not not not not (1-1-1-1-1-1-1);turn 0;slow 0;", -1);
        faultAt("lift not not not not -1-(1);turn 0;slow 0;", -1);
        faultAt("lift not not not not -(1);turn 0;slow 0;", 22);
        faultAt("lift not not not not (1<-1);turn 0;slow 0;", 24);
        faultAt("lift not not not not 1<-1;turn 0;slow 0;", -1);
        faultAt("lift not not not not not 1<-1;turn 0;slow 0;", 27);
        faultAt("lift not not not not not 1 and -1;turn 0;slow 0;", -1);
        faultAt("lift ((((1 and not 1 or -1))));turn 0;slow 0;", -1);
        faultAt("lift ((((1 and not -1))));turn 0;slow 0;", 19);
    }

    private static void force() {
        Check.sentence("A TEXT is THE LAW: which was. BAD.");
        ComesBack x = new ComesBack();
        Check.same("text 0 again", x.force(0), 0);
        for (int t = 1; t <= 5; t++) {
            Check.same("one too far", x.force(t), -2);
            World.text(x, STILL);
            Check.same("the new one", x.force(t), t - 1);
            Check.same("the law", x.count(4), t);
        }
        Check.same("none behind", x.force(6), -2);
        Check.same("the law stays", x.count(4), 5);
        Check.same("text 0", x.force(0), 5);
    }

    private static void values() {
        Check.sentence("An E is an int (32 bits, wrapping): of or, and, not, <, = 1 or 0 (what is not 0 is true).");
        // 2147483647 is the last, behind it comes -2147483648
        Object[][] due = {{"9999*9999*21+9999*4760+2758", (int) (9999L * 9999 * 21 + 9999L * 4760 + 2758)}, {"256*256*256*127+256*256*255+256*255+255", 2147483647},
            {"256*256*256*127+256*256*255+256*255+256", -2147483648}, {"256*256*256*256", 0}, {"-(256*256*256*128)", -2147483648},
            {"256*256*256*128-1", 2147483647}, {"256*256*256*128<0", 1}, {"256*256*256*128-1<0", 0}, {"not 256*256*256*256", 1},
            {"2 and 3", 1}, {"2 or 0", 1}, {"0 or 0", 0}, {"-1 and -2", 1}, {"not -1", 0}, {"5=5", 1}, {"5=6", 0}, {"5<5", 0}, {"5<6", 1}, {"-1<0", 1}, {"0<-1", 0}, {"7 and 0 or 9", 1}};
        for (Object[] d : due) {
            ComesBack x = new World().stick().toss(0, 0, 0, 1, 0, 0, 0).text("lift " + d[0] + ";turn 0;slow 0;").build();
            Check.same("" + d[0], x.why(0, 0, 0), (Integer) d[1]);
            Check.same("UP of " + d[0], x.why(0, 0, 3), Math.max(-9, Math.min(9, (Integer) d[1])));
        }
        Check.sentence("by all WEIGHTS together (1 at least), cut");
        ComesBack bare = new World().stick().toss(0, 0, 0, 1, 0, 0, 0).text("lift stick;turn stick;slow stick;").build();
        for (int what = 0; what < 3; what++) Check.same("of no pieces, " + what, bare.why(0, 0, what), 0);
        int[][] shares = {{19, 0}, {20, 1}, {39, 1}, {40, 2}};
        for (int[] s : shares) {
            // 1 out and 20 out
            ComesBack x = new World().stick(new int[] {1, s[0] % 20, s[0] % 20, 10}, new int[] {120, s[0] / 20, s[0] / 20, 10}).toss(0, 0, 0, 1, 0, 0, 0)
                .text("lift stick;turn stick;slow stick;").build();
            Check.same("lifts " + s[0] + " by 20", x.why(0, 0, 0), s[1]);
            Check.same("two arms", x.why(0, 0, 1), 2);
            Check.same("drags " + s[0] + " by 20", x.why(0, 0, 2), s[1]);
        }
    }

    private static void fly() {
        Check.sentence("3 its greatest height, 4 HOW FAR OFF it ends, 5 whether it is down (1, 0), 6 how far off it ever was (squared likewise).");
        ComesBack first = fall(0, 20).build();
        Check.same("highest at tick 0", first.fly(0, 3), 6);
        Check.same("farthest at the end", first.fly(0, 6), 400);
        ComesBack last = new World().stick().toss(0, 0, 0, 1, 0, 0, 0).text("lift 9;turn 0;slow 0;").build();
        Check.same("highest at tick 40", last.fly(0, 3), 6 + 40 * 8);
        Check.same("not down", last.fly(0, 5), 0);
        // south by 20, 11, 2, 0 .. while the wind blows 5 north: at -15 -21 -18 -13 -8 -3
        ComesBack mid = new World().stick().toss(0, 0, 48, 20, 0, 0, 0).text("lift 0;turn 0;slow 9;").wind(5, 0).build();
        Check.same("off at the end", mid.fly(0, 4), 9);
        Check.same("farthest on its way", mid.fly(0, 6), 441);
        ComesBack home = fall(4, 1).build();
        Check.same("nowhere", home.fly(0, 4), 0);
        Check.same("never off", home.fly(0, 6), 0);
    }

    private static void lies() {
        Check.sentence("The first TICK at which TILT is 0; -1: none.");
        // six ticks: a slant of 2 is 0 at tick 6, the last; of 3 never
        int[] due = {0, 3, 6, -1, -1};
        for (int slant = 0; slant < 5; slant++) Check.same("slant " + slant, still().toss(0, 0, 0, 1, slant, 0, 0).build().lies(0), due[slant]);
    }

    private static void hovers() {
        Check.sentence("How many TICKS, from 1 on, find it as high as the one ahead, above 0.");
        Check.same("never", still().toss(0, 0, 0, 1, 0, 0, 0).build().hovers(0), 0);
        Check.same("always", new World().stick().toss(0, 0, 0, 1, 0, 0, 0).text("lift 1;turn 0;slow 0;").build().hovers(0), 40);
        Check.same("but for the fall", new World().stick().toss(0, 0, 0, 1, 0, 7, 0).text("lift 0<spin;turn 0;slow 0;").build().hovers(0), 7);
        Check.same("at height 1", new World().stick().toss(0, 0, 0, 1, 0, 0, 0).text("lift high<2;turn 0;slow 0;").build().hovers(0), 35);
    }

    private static void circle() {
        Check.sentence("2 all that its WAY turned by from TICK to TICK (-32 .. 31 each), together, 3 that by 64 (cut).");
        // an OVER of MORE m (a multiple of 3) lasts 6 and m ticks
        int[][] due = {{3, 7, 63, 0}, {3, -7, -63, 0}, {12, 7, 126, 1}, {12, -7, -126, -1}, {15, 6, 126, 1}, {18, 8, 192, 3}, {18, -8, -192, -3}, {0, 0, 0, 0}, {18, 5, 120, 1}, {9, 0, 0, 0}};
        for (int[] d : due) {
            for (int way : new int[] {0, 31, 63}) {
                ComesBack x = new World().stick().toss(3, 0, way, 1, 0, 0, d[0]).text("lift 0;turn " + d[1] + ";slow 0;").build();
                Check.same("turned by " + d[1] + " from " + way, x.circle(0, 2), d[2]);
                Check.same("round by " + d[1] + " from " + way, x.circle(0, 3), d[3]);
            }
        }
        // an OVER of MORE 10 lasts 16 ticks and turns 1 more: 64 just so; of MORE 2, 8 ticks and 2 more
        ComesBack round = new World().stick().toss(3, 0, 60, 1, 0, 0, 10).toss(3, 0, 60, 1, 0, 0, 2).text("lift 0;turn 3;slow 0;").text("lift 0;turn 0-5;slow 0;").text("lift 0;turn 9;slow 0;").build();
        round.force(1);
        Check.same("just round", round.circle(0, 2), 64);
        Check.same("once", round.circle(0, 3), 1);
        round.force(2);
        Check.same("just round the other way", round.circle(0, 2), -64);
        Check.same("once the other way", round.circle(0, 3), -1);
        round.force(3);
        Check.same("by 10 each", round.circle(1, 2), 80);
        ComesBack wide = fall(32, 60).wind(9, 0).build();
        Check.same("width of one tick", wide.circle(0, 0), 60);
        Check.same("height of one tick", wide.circle(0, 1), 9);
        ComesBack none = fall(4, 1).build();
        Check.same("no width", none.circle(0, 0), 0);
        Check.same("no height", none.circle(0, 1), 0);
    }

    private static void down() {
        Check.sentence("0 the first TICK at which it is highest, 1 the last one at which it is higher than at the one ahead (-1), 2 by how much it is lower than at the one ahead at most (0 at least).");
        String[] laws = {FALL, "lift 9;turn 0;slow 0;", "lift 1;turn 0;slow 0;", STILL};
        int[][] due = {{0, -1, 6}, {40, 40, 0}, {0, -1, 0}, {0, -1, 1}};
        for (int n = 0; n < laws.length; n++) {
            ComesBack x = new World().stick().toss(0, 0, 0, 1, 0, 0, 0).text(laws[n]).build();
            for (int what = 0; what < 3; what++) Check.same("down " + what + " by " + laws[n], x.down(0, what), due[n][what]);
        }
        // up, level, up, down by 2, up by 1 to the highest again
        ComesBack x = new World().stick().toss(0, 0, 0, 1, 0, 6, 0).text("lift 1+(spin=6)+(spin=4)-2*(spin=3)+2*(spin=2)-9*(spin=0);turn 0;slow 0;").build();
        int[] heights = {6, 7, 7, 8, 6, 8, 8, 0};
        for (int k = 0; k < heights.length; k++) Check.same("height at " + k, x.tick(0, k, 2), heights[k]);
        Check.same("first highest", x.down(0, 0), 3);
        Check.same("last higher", x.down(0, 1), 5);
        Check.same("deepest", x.down(0, 2), 8);
    }

    private static void why() {
        Check.sentence("Of a FLIGHT at a TICK, by what is so there");
        // at the last tick (on the ground) it is told, too
        ComesBack x = new World().stick().toss(2, 0, 0, 9, 2, 7, 6).text("lift spin-9+high;turn tilt;slow speed-9;").build();
        int last = x.fly(0, 0);
        Check.same("lift at 0", x.why(0, 0, 0), 7 - 9 + 6);
        for (int k = 0; k <= last; k++) {
            Check.same("lift at " + k, x.why(0, k, 0), x.tick(0, k, 5) - 9 + x.tick(0, k, 2));
            Check.same("turn at " + k, x.why(0, k, 1), x.tick(0, k, 6));
            Check.same("slow at " + k, x.why(0, k, 2), x.tick(0, k, 4) - 9);
            Check.same("LESS at " + k, x.why(0, k, 5), k < 6 ? 0 : 2);
        }
        for (int what = 0; what < 6; what++) Check.same("behind the last", x.why(0, last + 1, what), -1000000);
    }

    private static void room() {
        Check.sentence("The first TICK at which x or y is more than wide (0 .. 4000) off 0, or it is higher than high (0 .. 999); -1: none.");
        for (int way : new int[] {0, 16, 32, 48}) {
            // 60 off at tick 1 and no more
            ComesBack x = fall(way, 60).build();
            Check.same("59 wide", x.room(0, 59, 999), 1);
            Check.same("60 wide", x.room(0, 60, 999), -1);
            Check.same("0 wide", x.room(0, 0, 999), 1);
            Check.same("6 high", x.room(0, 60, 6), -1);
            Check.same("5 high", x.room(0, 60, 5), 0);
            Check.same("0 high", x.room(0, 60, 0), 0);
        }
        // 60 off one way, 1 another: each alone is enough
        ComesBack high = new World().stick().toss(0, 0, 4, 1, 0, 0, 0).text("lift 9;turn 0;slow 0;").build();
        Check.same("326 high", high.room(0, 0, 326), -1);
        Check.same("325 high", high.room(0, 0, 325), 40);
        Check.same("13 high", high.room(0, 0, 13), 1);
        Check.same("14 high", high.room(0, 0, 14), 2);
        Check.same("15 high", high.room(0, 0, 15), 2);
        Check.same("22 high", high.room(0, 0, 22), 3);
    }

    private static void winds() {
        Check.sentence("WINDS 0 .. 9 (bits; MORE as it is) in which it COMES BACK within r (0 .. 99).");
        // south by p for one tick, north by the wind: only wind p brings it home
        for (int pace = 1; pace <= 12; pace++) {
            ComesBack x = fall(48, pace).wind(4, 0).build();
            int due = 0;
            for (int v = 0; v <= 9; v++) if (v == pace) due = 1 << v;
            Check.same("home of pace " + pace, x.winds(0, 0), due);
            Check.same("nearly home of pace " + pace, x.winds(0, 1), (due >> 1 | due << 1 | due | (pace == 10 ? 1 << 9 : 0)) & 1023);
            Check.same("the wind stays", x.wind(0, 0), 40);
        }
        Check.same("all", fall(0, 1).build().winds(0, 99), 1023);
        Check.same("none", fall(0, 60).build().winds(0, 59), 0);
        // MORE 9 at height 6 is 2
        Check.same("MORE as it is", fall(48, 5).wind(0, 9).build().winds(0, 0), 1 << 3);
        Check.same("MORE as it is, alone", fall(48, 2).wind(7, 9).build().winds(0, 0), 1);
    }

    private static void paces() {
        Check.sentence("PACES 1 .. 60 (bits) at which it COMES BACK within r (0 .. 99).");
        ComesBack x = fall(0, 30).build();
        for (int r = 0; r <= 99; r++) {
            long due = 0;
            for (int p = 1; p <= Math.min(r, 60); p++) due |= 1L << p;
            Check.same("paces within " + r, x.paces(0, r), due);
        }
        Check.same("the pace stays", x.tossTold(0, 3), 30);
        Check.same("and so does the flight", x.fly(0, 1), 30);
    }

    private static void odds() {
        Check.sentence("part 0 above, 1 below the line, in lowest terms.");
        // ways 16 .. 18 all go north, and end as far off as the pace is
        ComesBack x = fall(17, 10).build();
        for (int v = 0; v <= 3; v++) {
            for (int r = 0; r <= 99; r++) {
                int well = 0, all = 2 * v + 1;
                for (int p = 10 - v; p <= 10 + v; p++) if (p <= r) well++;
                int g = java.math.BigInteger.valueOf(well).gcd(java.math.BigInteger.valueOf(all)).intValue();
                Check.same("odds above of " + v + " within " + r, x.odds(0, 1, v, r, 0), well / g);
                Check.same("odds below of " + v + " within " + r, x.odds(0, 1, v, r, 1), all / g);
            }
        }
    }

    private static void mean() {
        Check.sentence("HOW FAR OFF it ends in the mean by a HAND: part as of odds().");
        ComesBack home = fall(6, 1).build();
        Check.same("none off", home.mean(0, 1, 0, 0), 0);
        Check.same("none off, below", home.mean(0, 1, 0, 1), 1);
        ComesBack one = fall(17, 9).build();
        Check.same("of one", one.mean(0, 0, 0, 0), 81);
        Check.same("of one, below", one.mean(0, 0, 0, 1), 1);
        // 64 81 100 are 245 by 3
        Check.same("of three", one.mean(0, 0, 1, 0), 245);
        Check.same("of three, below", one.mean(0, 0, 1, 1), 3);
        // the farthest of all does not wrap
        ComesBack far = new World().stick().toss(0, 0, 16, 60, 0, 20, 0).text("lift 9;turn 0;slow 0;").wind(9, 9).build();
        long sum = 0;
        for (int p = 57; p <= 63; p++) {
            ComesBack y = new World().stick().toss(0, 0, 16, Math.min(60, p), 0, 20, 0).text("lift 9;turn 0;slow 0;").wind(9, 9).build();
            long off = (long) y.fly(0, 1) * y.fly(0, 1) + (long) y.fly(0, 2) * y.fly(0, 2);
            Check.same("how far off", y.fly(0, 4), off);
            sum += off;
        }
        Check.same("the mean of the farthest", far.mean(0, 0, 3, 0) * 7, sum * far.mean(0, 0, 3, 1));
    }

    private static void exchange() {
        Check.sentence("The first two PIECES (by the lesser, then the other) of unlike LIFTS");
        // far out is piece 4 alone: only the one greater lift there, of piece 5, makes the stick's lift more than 13
        int[][] pieces = {{1, 3, 0, 1}, {1, 3, 0, 1}, {1, 3, 0, 1}, {1, 3, 0, 1}, {20, 3, 0, 1}, {2, 4, 0, 1}};
        ComesBack x = new World().stick(pieces).toss(0, 0, 0, 10, 0, 0, 0).text("lift 1-10*(13<stick);turn 0;slow 0;").build();
        // 12, 60 and 8 are 80, by 6 it is 13; exchanged, 12, 80 and 6 are 98, by 6 it is 16
        Check.same("the last two", x.exchange(0, 99), 45);
        ComesBack y = new World().stick(pieces).toss(0, 0, 0, 10, 0, 0, 0).text("lift 1-10*(stick<99);turn 0;slow 0;").build();
        // any will do, and the first of unlike lifts are 0 and 5
        Check.same("the first two unlike", y.exchange(0, 99), 5);
        int[][] like = {{1, 3, 0, 1}, {2, 3, 0, 1}, {3, 3, 0, 1}, {4, 3, 0, 1}, {5, 3, 0, 1}, {6, 3, 0, 1}};
        Check.same("all alike", new World().stick(like).toss(0, 0, 0, 1, 0, 0, 0).text(FALL).build().exchange(0, 99), -1);
        Check.same("one alone", new World().stick(new int[] {1, 3, 0, 1}).toss(0, 0, 0, 1, 0, 0, 0).text(FALL).build().exchange(0, 99), -1);
        Check.same("none at all", fall(0, 1).build().exchange(0, 99), -1);
        ComesBack two = new World().stick(new int[] {1, 3, 0, 1}, new int[] {1, 4, 0, 1}).toss(0, 0, 0, 60, 0, 0, 0).text(FALL).build();
        Check.same("two unlike", two.exchange(0, 60), 1);
        Check.same("two unlike, too near", two.exchange(0, 59), -1);
        Check.same("asked, not done", two.pieceTold(0, 0, 0), 3);
    }

    private static void form() {
        Check.sentence("The least LIFT (0 .. 20) with which, had all PIECES of its STICK it, it would COME BACK");
        for (int wanted = 0; wanted <= 21; wanted++) {
            ComesBack x = new World().stick(new int[] {1, 7, 0, 1}, new int[] {101, 9, 0, 1}).toss(0, 0, 0, 10, 0, 0, 0)
                .text("lift 1-10*(" + wanted + "=stick);turn 0;slow 0;").build();
            Check.same("form " + wanted, x.form(0, 99), wanted <= 20 ? wanted : -1);
            Check.same("the lifts stay", 100 * x.pieceTold(0, 0, 0) + x.pieceTold(0, 1, 0), 709);
        }
        Check.same("the least of some", new World().stick(new int[] {1, 7, 0, 1}).toss(0, 0, 0, 10, 0, 0, 0).text("lift 1-10*(11<stick);turn 0;slow 0;").build().form(0, 99), 12);
    }

    private static void lead() {
        Check.sentence("The PIECE with whose WEIGHT 20 it would end least far off, of like ones the first");
        for (int light = 0; light < 6; light++) {
            int[][] pieces = new int[6][];
            for (int p = 0; p < 6; p++) pieces[p] = new int[] {1, 20, 0, p == light ? 1 : 20};
            // the law asks for no weight: it falls at once, whichever is heavier
            ComesBack x = new World().stick(pieces).toss(0, 0, 0, 10, 0, 0, 0).text(FALL).build();
            Check.same("of like ones the first", x.lead(0, 0), 0);
            Check.same("of like ones, off", x.lead(0, 1), 100);
        }
        for (int light = 0; light < 6; light++) {
            int[][] pieces = new int[6][];
            for (int p = 0; p < 6; p++) pieces[p] = new int[] {1, p == 0 ? 20 : 19, 0, p == light ? 1 : 20};
            // lifts 115: by 101 it is 1, by 120 it is 0, and then it falls at once
            ComesBack x = new World().stick(pieces).toss(0, 0, 0, 10, 0, 0, 0).text("lift 1-10*(stick=0);turn 0;slow 0;").build();
            Check.same("it floats", x.fly(0, 5), 0);
            Check.same("the light one", x.lead(0, 0), light);
            Check.same("the light one, off", x.lead(0, 1), 100);
            Check.same("its weight stays", x.pieceTold(0, light, 2), 1);
        }
        Check.same("no piece", fall(0, 9).build().lead(0, 0), -1);
        Check.same("no piece, off", fall(0, 9).build().lead(0, 1), 0);
    }

    private static void film() {
        Check.sentence("of its first 40 TICKS (as many as there are, with TICK 0): how many.");
        for (int snap = 0; snap <= 40; snap++) {
            // snap and 6 ticks behind tick 0, 40 at most
            ComesBack x = new World().stick().toss(0, 0, 16, 3, 0, snap, 0).text("lift 0<spin;turn 0;slow 0;").build();
            int due = Math.min(40, snap + 7);
            for (int s = 0; s < 4; s++) {
                Check.same("filmed of snap " + snap, x.film(0, s), due);
                Check.same("it fits", x.judge(0, s), -1);
                Check.same("its last number", x.cell(s, 2 * due - 1, -1), 1);
                Check.same("is the last", x.judge(0, s), due - 1);
                Check.same("none behind", x.cell(s, 2 * due, 0), -12);
            }
        }
        Check.same("the fewest", fall(0, 1).build().film(0, 0), 2);
        // any row becomes ints
        ComesBack x = fall(0, 1).build();
        for (int sort = 0; sort < 3; sort++) {
            x.sheet(1, sort, 80);
            x.film(0, 1);
            Check.same("of ints", x.peopleBy(1, 2, 0, 0), 0);
            Check.same("of 4", x.cell(1, 4, 0), -12);
        }
    }

    private static void which() {
        Check.sentence("What 0 THROWS (bits) that a FILM fits (i doesn't matter), 1 TEXTS (bits), were they THE LAW, by which it fits THROW i.");
        World w = new World().stick();
        for (int i = 0; i < 8; i++) w.toss(0, 0, i == 7 ? 16 : 0, 10, 0, 0, 0);
        for (int t = 1; t <= 5; t++) w.text("lift 0;turn " + (t == 5 ? 8 : 0) + ";slow 0;");
        ComesBack x = w.build();
        x.force(5);
        x.film(7, 0);
        Check.same("the last throw", x.which(0, 0, 0), 1 << 7);
        Check.same("the last text", x.which(7, 0, 1), 1 << 5);
        x.force(1);
        x.film(0, 1);
        Check.same("the first seven", x.which(7, 1, 0), (1 << 7) - 1);
        Check.same("texts 1 to 4", x.which(0, 1, 1), 0b11110);
        x.sheet(2, 0, 0);
        Check.same("all of nothing", x.which(0, 2, 0), 255);
        Check.same("all texts of nothing", x.which(0, 2, 1), 63);
        x.sheet(2, 0, 2);
        Check.same("all begin at 0 0", x.which(0, 2, 0), 255);
        x.cell(2, 1, 1);
        Check.same("none at 0 1", x.which(0, 2, 0), 0);
        Check.same("none at 0 1 by any text", x.which(0, 2, 1), 0);
        Check.same("the law stays", x.count(4), 1);
        ComesBack none = new ComesBack();
        none.sheet(0, 2, 0);
        Check.same("no throws", none.which(0, 0, 0), 0);
    }

    private static void read() {
        Check.sentence("LIFTS (bits) of a PIECE of its STICK with which a FILM fits a THROW.");
        for (int wanted = 0; wanted <= 14; wanted++) {
            // down at tick 1 if the stick's lift (5 and piece 1's, by 2) is as wanted: the film's tick 2 is missing then
            ComesBack x = new World().stick(new int[] {1, 5, 0, 1}, new int[] {101, 3, 0, 1}).toss(0, 0, 0, 10, 0, 0, 0)
                .text("lift 0-9*(stick=" + wanted + ");turn 0;slow 0;").build();
            x.sheet(0, 2, 6);
            x.cell(0, 2, 10);
            x.cell(0, 4, 20);
            int due = 0;
            for (int lift = 0; lift <= 20; lift++) if ((5 + lift) / 2 != wanted) due |= 1 << lift;
            Check.same("lifts that do not make " + wanted, x.read(0, 1, 0), due);
            Check.same("the lift stays", x.pieceTold(0, 1, 0), 3);
        }
        ComesBack x = new World().stick(new int[] {1, 5, 0, 1}).toss(0, 0, 0, 10, 0, 0, 0).text("lift 0-9*(stick=0)-9*(stick=20);turn 0;slow 0;").build();
        x.sheet(0, 2, 6);
        x.cell(0, 2, 10);
        x.cell(0, 4, 20);
        Check.same("all but the first and the last", x.read(0, 0, 0), ALL_LIFTS - 1 - (1 << 20));
        x.sheet(0, 2, 0);
        Check.same("all of nothing", x.read(0, 0, 0), ALL_LIFTS);
    }

    private static void apart() {
        Check.sentence("(0 by 1, if there are none)");
        ComesBack x = new World().stick(new int[] {1, 5, 0, 1}).stick().toss(0, 0, 0, 10, 0, 0, 0).toss(0, 1, 0, 10, 0, 0, 0).text(STILL).build();
        x.sheet(0, 2, 2);
        Check.same("49 of 70", x.apart(0, 0, 0), 7);
        Check.same("49 of 70, below", x.apart(0, 0, 1), 10);
        Check.same("49 of 49", x.apart(1, 0, 0), 1);
        Check.same("49 of 49, below", x.apart(1, 0, 1), 1);
        x.cell(0, 0, 1);
        for (int i = 0; i < 2; i++) {
            Check.same("none", x.apart(i, 0, 0), 0);
            Check.same("none, below", x.apart(i, 0, 1), 1);
        }
        // at 13 at tick 1: by three paces more alone
        x.sheet(2, 2, 4);
        x.cell(2, 2, 13);
        Check.same("the hand's alone", x.apart(0, 2, 0), 1);
        Check.same("the hand's alone, below", x.apart(0, 2, 1), 1);
        // it is down at tick 1 unless its lift is 6, so no hand's throw has a tick 2
        ComesBack y = new World().stick(new int[] {1, 5, 0, 1}).toss(0, 0, 0, 10, 0, 0, 0).text("lift 0-9*(not stick=6);turn 0;slow 0;").build();
        y.sheet(2, 2, 6);
        y.cell(2, 2, 10);
        y.cell(2, 4, 20);
        Check.same("the lifts' alone", y.apart(0, 2, 0), 0);
        Check.same("the lifts' alone, below", y.apart(0, 2, 1), 1);
        Check.same("one lift", y.read(0, 0, 2), 1 << 6);
    }

    private static void hit() {
        Check.sentence("100 times the first TICK at which one is HIT, and the first who is; -1: nobody.");
        // 6 high for 40 ticks, 10 further at each
        World w = new World().stick().toss(0, 0, 0, 10, 0, 0, 0).text("lift 1;turn 0;slow 0;");
        Check.same("nobody", w.copy().build().hit(0), -1);
        Check.same("at tick 0", w.copy().person(9, 9).person(2, -2).build().hit(0), 1);
        Check.same("at tick 40", w.copy().person(402, 2).build().hit(0), 4000);
        Check.same("at tick 40, the sixth", w.copy().person(9, 9).person(9, 9).person(9, 9).person(9, 9).person(9, 9).person(398, -2).build().hit(0), 4005);
        Check.same("behind tick 40", w.copy().person(410, 0).build().hit(0), -1);
        Check.same("the first of two at once", w.copy().person(50, 2).person(50, 0).build().hit(0), 500);
        Check.same("the earlier of two", w.copy().person(50, 0).person(40, 0).build().hit(0), 401);
    }

    private static void near() {
        Check.sentence("at which TICK first (1), as long as both last. -5: THROWS (alike well)");
        // one 9 above the other goes 1 a tick, down at 15; the other 2 a tick, down at 6
        ComesBack x = new World().stick().toss(3, 0, 0, 1, 0, 0, 9).toss(0, 0, 0, 2, 0, 0, 0).text(STILL).build();
        Check.same("at first", x.near(0, 1, 0), 81);
        Check.same("at first, at", x.near(0, 1, 1), 0);
        Check.same("either way", x.near(1, 0, 1), 0);
        for (int i = 0; i < 2; i++) {
            Check.same("alike", x.near(i, i, 0), 0);
            Check.same("alike, at", x.near(i, i, 1), 0);
        }
        // the one above falls faster: a tick behind the other's last is not asked
        ComesBack y = new World().stick().stick(new int[] {1, 2, 0, 1}).toss(3, 1, 0, 1, 0, 0, 15).toss(0, 0, 0, 1, 0, 0, 0).text("lift 0-stick;turn 0;slow 0;").build();
        // 21 18 15 12 9 6 3 0 and 6 5 4 3 2 1 0: 15 .. at 0, 5 at 5, 3 at 6
        Check.same("at the last of both", y.near(0, 1, 0), 9);
        Check.same("at the last of both, at", y.near(0, 1, 1), 6);
        Check.same("at the last of both, either way", y.near(1, 0, 1), 6);
    }

    private static void mirror() {
        Check.sentence("Were its WAY 64 less what it is (modulo 64), and each TURN the other way round");
        for (int way = 0; way < 64; way++) {
            ComesBack x = fall(way, 60).build(), y = fall((64 - way) % 64, 60).build();
            for (int what = 0; what < 3; what++) Check.same("mirrored " + way + ", " + what, x.mirror(0, what), y.fly(0, what == 2 ? 4 : 1 + what));
        }
        // round both ways: 62 and 8 is 6, mirrored 2 less 8 is 58
        ComesBack turned = new World().stick().toss(0, 0, 62, 16, 0, 0, 0).text("lift 0-2;turn 8;slow 0;").build();
        Check.same("x", turned.fly(0, 1), 59 * 16 / 64 + 59 * 16 / 64);
        Check.same("y", turned.fly(0, 2), -24 * 16 / 64 + 24 * 16 / 64);
        // ways 2 and 58: indices 0 and 14
        Check.same("mirrored x", turned.mirror(0, 0), 16 + 45 * 16 / 64);
        Check.same("mirrored y", turned.mirror(0, 1), -45 * 16 / 64);
    }

    private static void drawn() {
        Check.sentence("the first is (SEED and 1) times 48271 modulo 2147483647, each further one the last times 48271 modulo 2147483647");
        for (int way : new int[] {0, 2, 61, 63}) {
            for (int pace : new int[] {1, 3, 58, 60}) {
                ComesBack x = fall(way, pace).wind(2, 0).build();
                for (int seed : new int[] {0, 1, 44487, 44488, 99998, 99999}) {
                    java.math.BigInteger lot = java.math.BigInteger.valueOf(seed).add(java.math.BigInteger.ONE);
                    int r = pace, well = 0;
                    for (int n = 0; n <= 40; n++) {
                        Check.same(n + " drawn by " + seed + " of way " + way + ", pace " + pace, x.drawn(0, seed, n, r), well);
                        int[] by = new int[2];
                        for (int k = 0; k < 2; k++) {
                            lot = lot.multiply(java.math.BigInteger.valueOf(48271)).mod(java.math.BigInteger.valueOf(2147483647));
                            by[k] = lot.mod(java.math.BigInteger.valueOf(7)).intValue() - 3;
                        }
                        well += fall(Math.floorMod(way + by[0], 64), Math.max(1, Math.min(60, pace + by[1]))).wind(2, 0).build().comes(0, r);
                    }
                }
            }
        }
    }

    private static void want() {
        Check.sentence("What 0 the THROW that ends least far off (r does not matter but to be one), 1 of those that COME BACK within r (0 .. 99) the one with most TICKS; of like ones the first; -1: none.");
        ComesBack none = new ComesBack();
        for (int what = 0; what < 2; what++) {
            for (int r : new int[] {0, 99}) Check.same("no throw", none.want(what, r), -1);
            for (int r : new int[] {-1, 100}) Check.same("no throw, r " + r, none.want(what, r), -2);
        }
        World w = new World().stick().text(STILL);
        for (int i = 0; i < 8; i++) w.toss(3, 0, 0, i == 7 ? 1 : 2, 0, 0, i == 7 ? 3 : 9);
        ComesBack x = w.build();
        // 15 ticks of 2, seven times, and 9 of 1
        Check.same("least far off is the last", x.want(0, 0), 7);
        Check.same("most ticks is the first", x.want(1, 30), 0);
        Check.same("within 29 there is but one", x.want(1, 29), 7);
        Check.same("within 9", x.want(1, 9), 7);
        Check.same("within 8", x.want(1, 8), -1);
        Check.same("r does not matter", x.want(0, 99), 7);
        // what floats may be least far off
        ComesBack y = new World().stick().toss(0, 0, 0, 60, 0, 0, 0).toss(0, 0, 4, 1, 0, 1, 0).text("lift 1-10*(spin=0)+90*(speed=1);turn 0;slow 0;").build();
        Check.same("floats", y.fly(1, 5), 0);
        Check.same("least far off, though afloat", y.want(0, 5), 1);
        Check.same("most ticks of those that come back", y.want(1, 60), 0);
    }

    private static void images() {
        Check.sentence("All that it keeps is as in THE IMAGE: how many STICKS there are. STATE: there is none.");
        ComesBack x = new ComesBack();
        Check.same("none", x.back(), -3);
        Check.same("of nothing", x.image(), 0);
        for (int s = 0; s < 4; s++) {
            x.stick();
            for (int p = 0; p < 6; p++) x.piece(s, 101 + p, s, p, 1 + p);
            for (int i = 0; i < 2; i++) x.toss(0, s, 1, 0, 0);
        }
        for (int p = 0; p < 6; p++) x.person(p, p);
        x.wind(7, 8);
        Check.same("back, all that came since stays", x.back(), 4);
        for (int s = 0; s < 4; s++) {
            Check.same("pieces", x.stickTold(s, 5), 6);
            for (int p = 0; p < 6; p++) Check.same("a piece", 10000 * x.pieceTold(s, p, 0) + 100 * x.pieceTold(s, p, 1) + x.pieceTold(s, p, 2), 10000 * s + 100 * p + 1 + p);
        }
        Check.same("people", x.count(2), 6);
        Check.same("throws", x.count(1), 8);
        Check.same("the wind is as it was", x.wind(1, 1), 0);
        Check.same("of all", x.image(), 4);
        for (int s = 0; s < 4; s++) {
            for (int p = 0; p < 6; p++) {
                for (int what = 0; what < 3; what++) x.file(s, p, what, 20 - what);
            }
        }
        x.wind(9, 9);
        Check.same("back", x.back(), 4);
        for (int s = 0; s < 4; s++) {
            for (int p = 0; p < 6; p++) Check.same("a piece again", 10000 * x.pieceTold(s, p, 0) + 100 * x.pieceTold(s, p, 1) + x.pieceTold(s, p, 2), 10000 * s + 100 * p + 1 + p);
        }
        Check.same("the image's wind", x.wind(2, 2), 11);
        Check.same("back again", x.back(), 4);
        Check.same("the image's wind again", x.wind(0, 0), 11);
        // people are where they were, and who came since stays
        ComesBack y = fall(0, 30).person(30, 0).person(0, 30).build();
        y.image();
        y.walks(0, 99, 99);
        y.walks(1, 30, 1);
        y.person(30, 2);
        Check.same("who walked there", y.hit(0), 101);
        y.back();
        Check.same("who was there", y.hit(0), 100);
        y.walks(0, 99, 99);
        Check.same("who came since", y.hit(0), 102);
    }

    private static void copy() {
        Check.sentence("n numbers of a SHEET, from i on, come to another one's (or its own) place j (as they were): n.");
        for (int sort = 0; sort < 3; sort++) {
            for (int n = -1; n <= 5; n++) {
                for (int i = -1; i <= 5; i++) {
                    for (int j = -1; j <= 5; j++) {
                        ComesBack x = fall(0, 1).build();
                        x.sheet(0, sort, 4);
                        x.sheet(3, sort, 4);
                        boolean well = n >= 0 && i >= 0 && j >= 0 && i + n <= 4 && j + n <= 4;
                        Check.same("copy of " + n + " from " + i + " to " + j, x.copy(0, i, 3, j, n), well ? n : -12);
                        Check.same("its own of " + n + " from " + i + " to " + j, x.copy(3, i, 3, j, n), well ? n : -12);
                    }
                }
            }
        }
        // a film of 0 0, 1 0, moved within itself by 2 both ways
        ComesBack x = new World().stick().toss(0, 0, 0, 1, 0, 0, 0).text(STILL).build();
        x.film(0, 0);
        x.film(0, 1);
        for (int by = 1; by <= 5; by++) {
            Check.same("on", x.copy(0, 0, 0, 2 * by, 14 - 2 * by), 14 - 2 * by);
            Check.same("elsewhere", x.judge(0, 0), by);
            Check.same("back", x.copy(0, 2 * by, 0, 0, 14 - 2 * by), 14 - 2 * by);
            Check.same("as it was, but for the end", x.judge(0, 0), Math.max(by, 7 - by));
            Check.same("anew", x.copy(1, 0, 0, 0, 14), 14);
            Check.same("as it was", x.judge(0, 0), -1);
        }
    }

    private static void peopleBy() {
        Check.sentence("from a place on, two by two (as of person()), n of them (0 .. 6): how many came (others are left out).");
        for (int sort = 0; sort < 3; sort++) {
            for (int size = 0; size <= 13; size++) {
                for (int n = 0; n <= 6; n++) {
                    for (int at = 0; at <= 3; at++) {
                        ComesBack x = new ComesBack();
                        x.sheet(2, sort, size);
                        boolean well = n == 0 || at + 2 * n <= size;
                        Check.same(n + " of " + size + " from " + at, x.peopleBy(2, sort, at, n), well ? n : -12);
                        Check.same("came", x.count(2), well ? n : Math.max(0, (size - at) / 2));
                    }
                }
            }
        }
        ComesBack x = new ComesBack();
        x.sheet(0, 2, 12);
        int[] row = {4000, -4000, 4001, 0, 0, -4001, -4000, 4000, Integer.MAX_VALUE, 0, 0, Integer.MIN_VALUE};
        for (int k = 0; k < 12; k++) x.cell(0, k, row[k]);
        Check.same("two of six", x.peopleBy(0, 2, 0, 6), 2);
        Check.same("two more", x.peopleBy(0, 2, 0, 4), 2);
        Check.same("and two", x.peopleBy(0, 2, 0, 6), 2);
        Check.same("six", x.count(2), 6);
        Check.same("none more", x.peopleBy(0, 2, 0, 6), 0);
        Check.same("none more, outside", x.peopleBy(0, 2, 2, 6), -12);
        Check.same("six still", x.count(2), 6);
        ComesBack y = new ComesBack();
        for (int p = 0; p < 5; p++) y.person(0, 0);
        y.sheet(0, 0, 12);
        Check.same("one of six", y.peopleBy(0, 0, 0, 6), 1);
        Check.same("by none", y.peopleBy(0, 0, 0, 0), 0);
    }

    private static void answersBehindRefusals() {
        Check.sentence("(a -1 that is an answer comes behind the refusal of a number)");
        // floats for ever, without pieces and people: each of these answers -1, but where a number is refused
        ComesBack x = new World().stick().toss(0, 0, 0, 1, 16, 0, 0).text("lift 1;turn 0;slow 0;").build();
        for (int r : new int[] {0, 99}) {
            Check.same("least within " + r, x.least(0, r), -1);
            Check.same("mend within " + r, x.mend(0, r), -1);
            Check.same("exchange within " + r, x.exchange(0, r), -1);
            Check.same("form within " + r, x.form(0, r), -1);
            Check.same("want within " + r, x.want(1, r), -1);
        }
        for (int r : new int[] {-1, 100}) {
            Check.same("least within " + r, x.least(0, r), -7);
            Check.same("mend within " + r, x.mend(0, r), -7);
            Check.same("exchange within " + r, x.exchange(0, r), -7);
            Check.same("form within " + r, x.form(0, r), -7);
            Check.same("want within " + r, x.want(1, r), -2);
        }
        Check.same("lead", x.lead(0, 0), -1);
        Check.same("lead, what 2", x.lead(0, 2), -7);
        Check.same("room", x.room(0, 4000, 999), -1);
        Check.same("room, too wide", x.room(0, 4001, 999), -7);
        Check.same("room, too high", x.room(0, 4000, 1000), -7);
        Check.same("down", x.down(0, 1), -1);
        Check.same("down, what 3", x.down(0, 3), -7);
        Check.same("lies", x.lies(0), -1);
        Check.same("lies, no throw", x.lies(1), -5);
        Check.same("hit", x.hit(0), -1);
        Check.same("hit, no throw", x.hit(1), -5);
        x.film(0, 0);
        Check.same("judge", x.judge(0, 0), -1);
        Check.same("judge, no sheet", x.judge(0, 4), -2);
    }
}
