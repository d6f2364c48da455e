import java.util.ArrayList;
import java.util.List;
import java.util.function.Supplier;

/**
 * Two objects made alike, one of which hears one call more: where the document says that nothing
 * happens, both must answer alike, whatever is asked behind it. Each hears fewer than 512 calls.
 */
final class Twin {
    /** Two rings, two archers, two winds; wind 6 drifts archer 0 by 4 and archer 1 by 3. */
    static final String GREEN = "green 10 4;wind 4;wind 6;ring 2 3;ring 5 2;archer 0 1 2 7;archer 1 2 3 4";

    interface Call {
        int of(StrawButts x);
    }

    private Twin() {
    }

    /** What is refused: its answer, and nothing happens. */
    static void stays(String name, int want, Supplier<StrawButts> made, Call call) {
        StrawButts with = made.get();
        StrawButts without = made.get();
        Check.due(name, want, call.of(with));
        List<String> due = told(without);
        List<String> got = told(with);
        int unlike = 0;
        while (unlike < due.size() && unlike < got.size() && due.get(unlike).equals(got.get(unlike))) {
            unlike++;
        }
        boolean alike = due.size() == got.size() && unlike == due.size();
        String where = alike ? "" : ", but [" + at(got, unlike) + "] for [" + at(due, unlike) + "]";
        Check.due(name + ": all stays" + where, 1, alike ? 1 : 0);
    }

    static void stay(String name, int want, Call call) {
        stays(name, want, Twin::busy, call);
    }

    /** Five acts to be undone, two rules, a note, an x, an image, and a green on the tape. */
    static StrawButts busy() {
        StrawButts x = Check.on(GREEN);
        Check.rule(x, "aim own");
        Check.rule(x, "aim 1 if wind=6 or ring=1");
        x.force(1);
        x.seed(77);
        x.note(0, 1, 5);
        x.round();
        x.image(1);
        x.shoot(0, 0);
        x.breath(3);
        x.teach(1, 7);
        x.shoot(1, 1);
        Check.feed(x, "green 12 3;wind 5;ring 7 4;archer 0 1 1 9");
        return x;
    }

    private static String at(List<String> all, int i) {
        return i < all.size() ? all.get(i) : "nothing";
    }

    /** All that can be seen: how it stands, what was noted, acts, the tape's text, images. */
    private static List<String> told(StrawButts x) {
        List<String> all = new ArrayList<>();
        tellAll(all, "now", x);
        all.add("ruled " + x.ruled(0) + " " + x.ruled(1) + " look " + x.look(0, 0) + " " + x.look(1, 1));
        all.add("gusts " + x.gusts(2, 3, 50, 0) + " " + x.gusts(2, 3, 50, 1) + " ahead " + x.ahead(0, 3, 2));
        for (int i = x.count(13); i > 0; i--) {
            all.add("undo " + x.undo() + " stuck " + x.ring(0, 2) + " " + x.ring(1, 2) + " skill " + x.archer(1, 1));
            all.add("counts " + x.count(7) + " " + x.count(8) + " " + x.count(9) + " " + x.count(10) + " " + x.count(11));
        }
        all.add("undo at last " + x.undo());
        tellAll(all, "undone", x);
        all.add("tape as a green " + x.green() + ", as a rule " + x.rule());
        tellAll(all, "behind the tape", x);
        for (int k = 0; k < 4; k++) {
            all.add("back " + k + " " + x.back(k));
            all.add("counts " + x.count(6) + " " + x.count(7) + " " + x.count(8) + " " + x.count(12) + " " + x.count(14));
        }
        return all;
    }

    private static void tellAll(List<String> all, String when, StrawButts x) {
        for (int what = 0; what < 16; what++) {
            all.add(when + ": count " + what + " " + x.count(what));
        }
        for (int ring = 0; ring < x.count(3); ring++) {
            all.add(when + ": ring " + x.ring(ring, 0) + " " + x.ring(ring, 1) + " " + x.ring(ring, 2));
        }
        for (int a = 0; a < x.count(4); a++) {
            all.add(when + ": archer " + x.archer(a, 0) + " " + x.archer(a, 1) + " " + x.archer(a, 2) + " " + x.archer(a, 3)
                + " " + x.archer(a, 4) + " skilled " + x.skilled(a) + " ails " + x.ails(a));
        }
        for (int shot = 0; shot < x.count(2); shot++) {
            all.add(when + ": wind " + x.wind(shot));
        }
    }
}
