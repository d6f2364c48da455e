/** The bounds of promises 33, 34, 36 and 37, and of how many calls an object is used for. */
public final class DrawBoundsTest {
    private static final int[] FAR = {Integer.MIN_VALUE, -2, -1, 101, Integer.MAX_VALUE};
    private static final int MOST_X = Integer.MAX_VALUE;

    public static void main(String[] args) {
        seeds();
        gusts();
        belowP();
        windsDrawn();
        drawsGoRound();
        mostGusts();
        gustsLeaveNothing();
        gustsWithoutArchers();
        images();
        imageNeverMade();
        imageGoneBackTo();
        imageOfNoGreen();
        imagesApart();
        notesOfImages();
        manyCalls();
        Check.finish();
    }

    /** Promise 33: "what it was; NONE, and nothing happens, below 0". */
    private static void seeds() {
        for (int x : new int[] {-1, -2, Integer.MIN_VALUE}) {
            Twin.stay("seed " + x, -1, y -> y.seed(x));
            Twin.stays("new: seed " + x, -1, StrawButts::new, y -> y.seed(x));
        }
        Twin.stay("the x that it is", 77, y -> y.seed(77));
        StrawButts y = new StrawButts();
        Check.due("0 at first", 0, y.seed(MOST_X));
        Check.due("the most", MOST_X, y.count(14));
        Check.due("below 0", -1, y.seed(-1));
        Check.due("the most", MOST_X, y.seed(0));
        Check.due("the least", 0, y.count(14));
        Check.due("the least", 0, y.seed(1));
    }

    /** Promise 34: "NONE without these, or a GREEN". */
    private static void gusts() {
        for (int what = 0; what < 2; what++) {
            int asked = what;
            for (int far : FAR) {
                Twin.stay("gusts " + far + " times", -1, x -> x.gusts(far, 1, 0, asked));
                Twin.stay("gusts for " + far, -1, x -> x.gusts(1, far, 0, asked));
                Twin.stay("gusts below " + far, -1, x -> x.gusts(1, 1, far, asked));
            }
            Twin.stay("gusts 0 times", -1, x -> x.gusts(0, 1, 0, asked));
            Twin.stay("gusts 11 times", -1, x -> x.gusts(11, 1, 0, asked));
            Twin.stay("gusts for 0", -1, x -> x.gusts(1, 0, 0, asked));
            Twin.stay("gusts for 41", -1, x -> x.gusts(1, 41, 0, asked));
            Twin.stays("without a GREEN", -1, StrawButts::new, x -> x.gusts(1, 1, 0, asked));
        }
        for (int far : FAR) {
            Twin.stay("gusts what " + far, -1, x -> x.gusts(1, 1, 0, far));
        }
        Twin.stay("gusts what 2", -1, x -> x.gusts(1, 1, 0, 2));
        // without gusts it goes on as ahead does: nobody is eased
        Twin.stay("once for 1 without gusts", 0, x -> x.gusts(1, 1, 0, 0));
        Twin.stay("10 times for 40 without gusts", 0, x -> x.gusts(10, 40, 0, 0));
        Twin.stay("10 times for 40 without gusts", 0, x -> x.gusts(10, 40, 0, 1));
    }

    /** The wind of one ROUND behind a seed: all aim at RING 0 in PLACE 10, and are eased in PLACE 10 + wind - 4. */
    private static void windIs(int seed, int p, int wind) {
        for (int w = 0; w < 9; w++) {
            String own = w == 4 ? "ring 10 3;archer 0 1 1 7" : "ring 10 1;ring " + (6 + w) + " 3;archer 1 1 1 7";
            StrawButts x = Check.on("green 20 5;wind 4;" + own);
            Check.rule(x, "aim 1 if ring=0");
            x.force(0);
            x.seed(seed);
            Check.due("seed " + seed + " p " + p + " wind " + w, w == wind ? 3 : 0, x.gusts(1, 1, p, 0));
            Check.due("x as it was", seed, x.count(14));
        }
    }

    /** Terms: "a DRAW mod 100: is it below p (0 to 100)". */
    private static void belowP() {
        // 163: the draws are 24900 and 16740
        windIs(163, 0, 4);
        windIs(163, 1, 0);
        windIs(163, 100, 0);
        // 676: the draws are 12199 and 18747
        windIs(676, 99, 4);
        windIs(676, 100, 0);
        // 0: the draws are 0 and 21468
        windIs(0, 0, 4);
        windIs(0, 1, 3);
    }

    /** Terms: "a DRAW mod 9: that is the wind of all SHOTS of this ROUND". */
    private static void windsDrawn() {
        // 824: the draws are 13900 and 20285; 583: 19100 and 5161; 194: 22599 and 21269
        windIs(824, 50, 8);
        windIs(583, 50, 4);
        windIs(194, 100, 2);
        StrawButts all = Check.on("green 20 1;ring 10 1;ring 14 3" + ";archer 1 1 1 7".repeat(5));
        Check.rule(all, "aim 1 if ring=0 and wind=8");
        all.force(0);
        all.seed(824);
        Check.due("all SHOTS", 15, all.gusts(1, 1, 50, 0));
        Check.due("of this ROUND", 15, all.gusts(1, 2, 1, 0));
    }

    /** Terms: "x becomes x * 1103515245 + 12345, of 2147483648 the rest; a DRAW is x / 65536". */
    private static void drawsGoRound() {
        // the draws from the most are 15929 and 4409; from one less 31859 and 20118
        windIs(MOST_X, 29, 4);
        windIs(MOST_X, 30, 8);
        windIs(MOST_X - 1, 59, 4);
        windIs(MOST_X - 1, 60, 3);
    }

    /** Terms: "GUSTS m times (1 to 10) n ROUNDS (1 to 40) from now on": all of these, and no more. */
    private static void mostGusts() {
        StrawButts x = Check.on("green 9 20;wind 8;ring 8 1;archer 0 1 1 30");
        for (int m = 1; m <= 10; m++) {
            Check.due(m + " times", m, x.gusts(m, 1, 0, 1));
            Check.due(m + " times", 20 * m, x.gusts(m, 40, 0, 1));
        }
        x.shoot(0, 0);
        Check.due("what lay in the HEDGE lies there each time", 20, x.gusts(10, 1, 0, 1));
        String green = "green 9 3;ring 8 1;archer 0 1 1 30";
        for (int far : new int[] {0, 38, 39, 40}) {
            StrawButts y = Check.on(green);
            Check.rule(y, "aim 1 if round=" + far);
            y.force(0);
            Check.due("in ROUND " + far, far < 40 ? 10 : 0, y.gusts(10, 40, 0, 0));
            Check.due("in ROUND " + far, far < 39 ? 1 : 0, y.gusts(1, 39, 0, 0));
        }
        StrawButts z = Check.on("green 9 20;ring 8 9;archer 0 1 1 30");
        Check.due("ILL 0 at least, each time", 300, z.gusts(10, 40, 0, 0));
        Check.due("by three", 270, z.gusts(10, 3, 0, 0));
    }

    /** Terms: "(nothing stays; x as it was)". */
    private static void gustsLeaveNothing() {
        StrawButts x = Check.on("green 9 20;ring 4 1;archer 0 1 9 30");
        x.seed(824);
        Check.due("without gusts", 29, x.ahead(0, 1, 0));
        Check.due("a gale", 1, x.gusts(1, 1, 50, 1));
        Check.due("it has gone by", 29, x.ahead(0, 1, 0));
        Check.due("a gale", 1, x.gusts(1, 1, 50, 1));
        Check.due("it has gone by", 4, x.down(0, 0));
        Check.due("it has gone by", 1022, x.skilled(0));
        Check.due("a gale", 1, x.gusts(1, 1, 50, 1));
        Check.due("the next ROUND is in still air", 1, x.round());
        Check.due("x", 824, x.count(14));
        Check.due("nothing is in the HEDGE", 0, x.count(11));
    }

    private static void gustsWithoutArchers() {
        StrawButts x = Check.on("green 9 20");
        Check.due("nobody is eased", 0, x.gusts(10, 40, 100, 0));
        Check.due("nothing is in the HEDGE", 0, x.gusts(10, 40, 100, 1));
    }

    /** Promise 36: "NONE without it"; terms: "IMAGES 0 to 3". */
    private static void images() {
        for (int k : new int[] {Integer.MIN_VALUE, -2, -1, 4, 5, Integer.MAX_VALUE}) {
            Twin.stay("image " + k, -1, x -> x.image(k));
            Twin.stay("back " + k, -1, x -> x.back(k));
        }
        for (int k = 0; k < 4; k++) {
            StrawButts x = Twin.busy();
            Check.due("image " + k, 1, x.image(k));
            x.round();
            Check.due("back " + k, 1, x.back(k));
            Check.due("SHOT", 7, x.count(8));
        }
        StrawButts quiet = Check.on("green 3 0;ring 0 1");
        for (int i = 0; i < 3; i++) {
            quiet.round();
        }
        Check.due("ROUND 3, SHOT 0", 3, quiet.image(0));
        quiet.breath(5);
        Check.due("ROUND 3, SHOT 5", 3, quiet.image(0));
        Check.due("ROUND 3, SHOT 5", 3, quiet.back(0));
        StrawButts shot = Check.on("green 3 4;ring 0 1;archer 0 1 1 9");
        shot.shoot(0, 0);
        Check.due("ROUND 0, SHOT 1", 0, shot.image(0));
        Check.due("ROUND 0, SHOT 1", 0, shot.back(0));
        StrawButts x = Twin.busy();
        int[] was = new int[16];
        for (int what = 0; what < 16; what++) {
            was[what] = x.count(what);
        }
        x.image(2);
        for (int what = 0; what < 16; what++) {
            Check.due("behind an image: count " + what, was[what], x.count(what));
        }
        Check.due("acts can be undone as before", 4, x.undo());
    }

    /** Promise 37: "NONE, and nothing happens, if it was never made, or without it". */
    private static void imageNeverMade() {
        for (int k : new int[] {0, 2, 3}) {
            Twin.stay("back " + k + ", never made", -1, x -> x.back(k));
        }
        for (int k = 0; k < 4; k++) {
            int never = k;
            Twin.stays("back " + k + ", none was made", -1, () -> Check.on(Twin.GREEN), x -> x.back(never));
        }
        StrawButts x = Twin.busy();
        x.image(4);
        x.image(-1);
        Check.due("3 was not made by 4", -1, x.back(3));
        Check.due("0 was not made by -1", -1, x.back(0));
    }

    /** Terms: "gone back to, it is as it was (these stay; nothing can be UNDONE then)". */
    private static void imageGoneBackTo() {
        StrawButts x = Twin.busy();
        x.seed(5);
        x.force(0);
        x.note(1, 0, 99);
        Check.rule(x, "aim 3");
        Check.feed(x, "green 3 0");
        Check.due("back", 1, x.back(1));
        int[] due = {10, 4, 2, 2, 2, 3, 1, 1, 2, 9, 6, 0, 1, 0, 77, 9};
        for (int what = 0; what < 16; what++) {
            Check.due("gone back: count " + what, due[what], x.count(what));
        }
        Check.due("nothing can be UNDONE", -1, x.undo());
        Check.due("the NOTE that was", 4, x.skilled(1));
        Check.due("skill", 2, x.archer(1, 1));
        Check.due("what stuck", 2, x.ring(1, 2));
        Check.due("the TAPE that is", 0, x.green());
        Check.due("LONG", 3, x.count(0));
        Check.due("once more", 1, x.back(1));
        Check.due("LONG", 10, x.count(0));
        x.round();
        Check.due("acts behind it can be UNDONE", 0, x.undo());
        Check.due("no more", -1, x.undo());
        Check.due("ROUND", 1, x.count(7));
    }

    private static void imageOfNoGreen() {
        StrawButts x = new StrawButts();
        x.seed(9);
        Check.due("image of no GREEN", 0, x.image(0));
        Check.green(x, Twin.GREEN);
        x.round();
        x.note(0, 0, 2);
        Check.due("gone back to", 0, x.back(0));
        int[] due = {0, 0, 0, 0, 0, 0, -1, 0, 0, 0, 0, 0, 0, 0, 9, 0};
        for (int what = 0; what < 16; what++) {
            Check.due("no GREEN: count " + what, due[what], x.count(what));
        }
        Check.due("round", -1, x.round());
        Check.due("ring", -1, x.ring(0, 0));
        Check.due("wind", -1, x.wind(0));
        Check.due("note", -2, x.note(0, 0, 0));
        Check.due("gusts", -1, x.gusts(1, 1, 0, 0));
    }

    /** Each of the four keeps its own, whatever is done behind it. */
    private static void imagesApart() {
        StrawButts x = Check.on(Twin.GREEN);
        for (int k = 0; k < 4; k++) {
            Check.due("image " + k, k, x.image(k));
            x.round();
        }
        for (int k : new int[] {3, 0, 2, 1, 1}) {
            Check.due("back " + k, k, x.back(k));
            Check.due("SHOT", 2 * k, x.count(8));
            x.round();
            x.teach(0, 9);
        }
        Check.due("made anew", 2, x.image(2));
        Check.due("the newer one", 2, x.back(2));
        Check.due("its skill", 9, x.archer(0, 1));
        Check.due("the others stay", 3, x.back(3));
        Check.due("their skill", 1, x.archer(0, 1));
    }

    private static void noteComesBack(int n, int archer, int place, int skills) {
        StrawButts x = Check.on("green 20 2;wind 4;wind 5;ring 4 1;archer 0 1 8 9;archer 0 2 8 9");
        x.note(n, archer, place);
        x.image(0);
        x.note(-1, 0, 0);
        x.note(0, 1, 8);
        Check.due("another NOTE", 4, x.skilled(1));
        x.back(0);
        Check.due("the NOTE that was", skills, x.skilled(1));
    }

    /** Terms: "IMAGES .. all but the TAPE and the RULES": a NOTE with its ROUND, ARCHER and PLACE. */
    private static void notesOfImages() {
        noteComesBack(0, 1, 8, 4);
        noteComesBack(2, 1, 8, 0);
        noteComesBack(2, 1, 99, 1022);
        noteComesBack(0, 0, 8, 0);
        noteComesBack(0, 0, 4, 1022);
        noteComesBack(0, 1, 12, 2);
    }

    /** "An object is used for at most 512 calls": the last of these is answered as the first. */
    private static void manyCalls() {
        StrawButts x = Check.on("green 20 20;wind 4;wind 5;wind 6;ring 10 1;archer 0 1 1 30");
        int calls = 6;
        int shot = 0;
        while (calls < 508) {
            calls++;
            shot += 20;
            Check.due("call " + calls, shot, x.breath(20));
        }
        Check.due("call 509", 10 + shot % 3, x.down(0, 0));
        Check.due("call 510", 1, x.gusts(10, 40, 50, 0) > 0 ? 1 : 0);
        Check.due("call 511", 19, x.undo());
        Check.due("call 512", shot - 20, x.count(8));
        StrawButts y = Twin.busy();
        int much = y.gusts(10, 40, 50, 1);
        for (int i = 0; i < 440; i++) {
            Check.due("asked again", much, y.gusts(10, 40, 50, 1));
        }
        StrawButts z = new StrawButts();
        for (int i = 0; i < 512; i++) {
            Check.due("rule " + i, Check.fault(0, 0), z.rule());
        }
    }
}
