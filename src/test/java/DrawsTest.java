/** Promises 33, 34, 36 and 37: draws, afternoons of drawn winds, images. */
public final class DrawsTest {
    private static final String GREEN = "green 10 4;wind 4;ring 1 3;archer 0 1 2 7";

    public static void main(String[] args) {
        seeds();
        gusts();
        gustsTellRules();
        wrongGusts();
        images();
        imagesOfOtherGreens();
        Check.finish();
    }

    private static void seeds() {
        StrawButts x = new StrawButts();
        Check.due("seed(-1)", -1, x.seed(-1));
        Check.due("seed(MIN)", -1, x.seed(Integer.MIN_VALUE));
        Check.due("seed(MAX)", 0, x.seed(Integer.MAX_VALUE));
        Check.due("seed(0)", Integer.MAX_VALUE, x.seed(0));
        Check.due("seed(7)", 0, x.seed(7));
        Check.due("x", 7, x.count(14));
        Check.green(x, GREEN);
        Check.due("x stays", 7, x.count(14));
    }

    /** From x = 0 the draws mod 100 and mod 9 are 0, .., worked out by hand: see the rows below. */
    private static void gusts() {
        StrawButts x = Check.on(GREEN);
        // one round: 0 is below 50, so wind 3 drifts by -2 into the hedge
        Check.due("1 x 1", 0, x.gusts(1, 1, 50, 0));
        Check.due("1 x 1", 1, x.gusts(1, 1, 50, 1));
        Check.due("p 0", 3, x.gusts(1, 1, 0, 0));
        Check.due("p 0", 0, x.gusts(1, 1, 0, 1));
        // the second round draws 88, no gust; then 17: wind 6, 27: wind 7, 41: wind 8, 10: wind 3
        Check.due("1 x 2", 3, x.gusts(1, 2, 50, 0));
        Check.due("3 x 2", 3, x.gusts(3, 2, 50, 0));
        Check.due("3 x 2", 2, x.gusts(3, 2, 50, 1));
        Check.due("x as it was", 0, x.count(14));
        Check.due("2 x 1", 3, x.gusts(2, 1, 50, 0));
        x.shoot(0, 0);
        Check.due("eased", 4, x.count(9));
        Check.due("from now on", 3, x.gusts(3, 2, 50, 0));
        x.seed(654583775);
        // 17: wind 6
        Check.due("by x", 0, x.gusts(1, 1, 18, 0));
        Check.due("by x", 3, x.gusts(1, 1, 17, 0));
        // the draws go on without arrows: 0 and wind 3; then 88, no gust
        StrawButts one = Check.on("green 10 1;wind 4;ring 1 3;archer 0 1 2 7");
        Check.due("2 x 2", 1, one.gusts(2, 2, 50, 1));
        Check.due("2 x 2", 0, one.gusts(2, 2, 50, 0));
        StrawButts hedged = Check.on("green 3 5;wind 8;ring 1 3;archer 0 1 2 7");
        hedged.shoot(0, 0);
        Check.due("in the hedge at the end", 6, hedged.gusts(2, 2, 0, 1));
    }

    private static void gustsTellRules() {
        StrawButts x = Check.on(GREEN);
        Check.rule(x, "aim 1 if wind=3 and drift=0-2");
        Check.rule(x, "aim 1 if wind=4");
        x.force(0);
        Check.due("all aim by the gust", 1, x.gusts(1, 1, 50, 1));
        Check.due("by none", 0, x.gusts(1, 1, 0, 1));
        x.force(1);
        Check.due("nobody aims by the gust", 0, x.gusts(1, 1, 50, 1));
        Check.due("then they do", 3, x.gusts(1, 2, 50, 0));
    }

    private static void wrongGusts() {
        StrawButts x = Check.on(GREEN);
        Check.due("m 0", -1, x.gusts(0, 1, 0, 0));
        Check.due("m 11", -1, x.gusts(11, 1, 0, 0));
        Check.due("n 0", -1, x.gusts(1, 0, 0, 0));
        Check.due("n 41", -1, x.gusts(1, 41, 0, 0));
        Check.due("p -1", -1, x.gusts(1, 1, -1, 0));
        Check.due("p 101", -1, x.gusts(1, 1, 101, 0));
        Check.due("what -1", -1, x.gusts(1, 1, 0, -1));
        Check.due("what 2", -1, x.gusts(1, 1, 0, 2));
        Check.due("most", 70, x.gusts(10, 40, 0, 0));
        Check.due("p 100", 0, x.gusts(1, 1, 100, 0));
        Check.due("without a green", -1, new StrawButts().gusts(1, 1, 0, 0));
    }

    private static void images() {
        StrawButts x = Check.on(GREEN);
        Check.rule(x, "aim own");
        Check.due("never made", -1, x.back(0));
        Check.due("k -1", -1, x.image(-1));
        Check.due("k 4", -1, x.image(4));
        Check.due("k -1", -1, x.back(-1));
        Check.due("k 4", -1, x.back(4));
        x.round();
        x.round();
        x.teach(0, 3);
        x.note(0, 0, 1);
        x.force(0);
        x.seed(9);
        Check.due("image(3)", 2, x.image(3));
        Check.due("acts stay", 3, x.count(13));
        x.round();
        x.undo();
        x.undo();
        x.undo();
        x.note(-1, 0, 0);
        x.seed(10);
        x.force(-1);
        Check.rule(x, "aim 1");
        Check.feed(x, "abcd");
        Check.due("back(3)", 2, x.back(3));
        int[] due = {10, 4, 1, 1, 1, 2, 0, 2, 2, 1, 2, 0, 1, 0, 9, 4};
        for (int what = 0; what < due.length; what++) {
            Check.due("count(" + what + ") then", due[what], x.count(what));
        }
        Check.due("skill", 3, x.archer(0, 1));
        Check.due("nothing can be undone", -1, x.undo());
        Check.due("ails by its notes", 1, x.ails(0));
        x.round();
        Check.due("again", 2, x.back(3));
        Check.due("another was never made", -1, x.back(2));
        Check.due("the first three rounds", 2, x.image(0));
        x.round();
        Check.due("made anew", 3, x.image(0));
        Check.due("the newer one", 3, x.back(0));
    }

    private static void imagesOfOtherGreens() {
        StrawButts x = new StrawButts();
        Check.due("of no green", 0, x.image(0));
        Check.green(x, GREEN);
        x.round();
        x.image(1);
        Check.green(x, "green 20 7;wind 1;wind 2;ring 3 4;ring 5 6;archer 1 2 3 4;archer 0 1 2 3");
        x.note(0, 1, 3);
        x.image(2);
        Check.due("the first green", 1, x.back(1));
        Check.due("LONG", 10, x.count(0));
        Check.due("ARCHERS", 1, x.count(4));
        Check.due("NOTES", 0, x.count(12));
        x.note(0, 0, 1);
        Check.due("its text's begin", 1022, x.skilled(0));
        Check.due("the second green", 0, x.back(2));
        Check.due("ARCHERS", 2, x.count(4));
        Check.due("wind", 2, x.wind(1));
        Check.due("NOTES", 1, x.count(12));
        Check.due("no green", 0, x.back(0));
        Check.due("LONG", 0, x.count(0));
        Check.due("winds", 0, x.count(2));
        Check.due("round", -1, x.round());
    }
}
