import java.util.ArrayList;
import java.util.List;
import java.util.Set;

/** Asks an object all that it tells, so that two objects can be compared; the object is spent by it. */
final class Probe {
    /** The calls that may change something; all others only ask. */
    static final Set<String> CHANGING = Set.of("stick", "piece", "file", "wind", "toss", "feed", "text", "force", "mend", "film",
        "person", "walks", "image", "back", "sheet", "cell", "copy", "peopleBy");

    private Probe() { }

    static List<Long> of(ComesBack x) {
        List<Long> all = new ArrayList<>();
        told(x, all);
        flown(x, all);
        sheets(x, all);
        // the wind is told as what was; the winds put instead bring out whether MORE is asked, too
        all.add((long) x.wind(0, 0));
        all.add((long) x.wind(9, 9));
        flown(x, all);
        tape(x, all);
        all.add((long) x.back());
        told(x, all);
        all.add((long) x.wind(0, 0));
        flown(x, all);
        x.force(0);
        flown(x, all);
        return all;
    }

    private static void told(ComesBack x, List<Long> all) {
        for (int what = 0; what < 6; what++) all.add((long) x.count(what));
        for (int s = 0; s < 4; s++) {
            for (int what = 0; what < 6; what++) all.add((long) x.stickTold(s, what));
            for (int p = 0; p < 6; p++) {
                for (int what = 0; what < 5; what++) all.add((long) x.pieceTold(s, p, what));
            }
        }
        for (int i = 0; i < 8; i++) {
            for (int what = 0; what < 8; what++) all.add((long) x.tossTold(i, what));
        }
    }

    private static void flown(ComesBack x, List<Long> all) {
        for (int i = 0; i < 8; i++) {
            for (int what = 0; what < 7; what++) all.add((long) x.fly(i, what));
            for (int what = 0; what < 6; what++) all.add((long) x.why(i, 1, what));
            all.add((long) x.hit(i));
            all.add(x.hitOdds(i, 1, 1, 0));
        }
    }

    /** What sheets hold is told by the throws that they are films of. */
    private static void sheets(ComesBack x, List<Long> all) {
        for (int s = 0; s < 4; s++) {
            for (int i = 0; i < 8; i++) all.add((long) x.judge(i, s));
            for (int sort = 0; sort < 3; sort++) all.add((long) x.peopleBy(s, sort, 0, 0));
            int size = 0;
            while (size < 80 && x.copy(s, size + 1, s, 0, 0) == 0) size++;
            all.add((long) size);
        }
    }

    /** A tape that ends within the word slow becomes a text. */
    private static void tape(ComesBack x, List<Long> all) {
        World.feed(x, "ow 3;");
        all.add((long) x.text());
        x.force(x.count(3) - 1);
        flown(x, all);
    }
}
