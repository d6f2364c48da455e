/** The bounds of promises 26, 27 and 30 to 32: notes, and what can have been by them. */
public final class NoteBoundsTest {
    private static final int[] FAR = {Integer.MIN_VALUE, -2, -1, 101, Integer.MAX_VALUE};
    private static final String SIX = "green 9 3;ring 0 1;ring 1 1;ring 2 1;ring 3 1;ring 4 1;ring 5 1";
    private static final String FIVE = ";archer 0 1 1 9".repeat(5);

    public static void main(String[] args) {
        refusedNotes();
        takenNotes();
        tenNotes();
        noNotes();
        whatIsNoted();
        fortiethRound();
        skilled();
        skilledByBits();
        ails();
        ailsByBits();
        fromTheBeginOn();
        ruled();
        ruledByNumbers();
        look();
        lookForSeveral();
        lookForNothing();
        Check.finish();
    }

    /** Promise 30: "-2, and nothing happens, without these (place a PLACE, NONE or 99)". */
    private static void refusedNotes() {
        for (int n : new int[] {Integer.MIN_VALUE, -3, -2, 41, 42, 99, Integer.MAX_VALUE}) {
            Twin.stay("note of round " + n, -2, x -> x.note(n, 0, 0));
        }
        for (int far : FAR) {
            Twin.stay("note of archer " + far, -2, x -> x.note(0, far, 0));
        }
        Twin.stay("note of archer 2 of two", -2, x -> x.note(0, 2, 0));
        for (int place : new int[] {Integer.MIN_VALUE, -3, -2, 10, 11, 20, 98, 100, Integer.MAX_VALUE}) {
            Twin.stay("note of place " + place, -2, x -> x.note(0, 0, place));
        }
        Twin.stays("without a GREEN", -2, StrawButts::new, x -> x.note(0, 0, 0));
        Twin.stays("without ARCHERS", -2, () -> Check.on("green 9 1;ring 0 1"), x -> x.note(0, 0, 99));
    }

    /** Terms: "in the n-th ROUND of all (0 to 40) the ARROW of an ARCHER came down at a PLACE ..". */
    private static void takenNotes() {
        int[][] notes = {{0, 0, 0}, {40, 0, 0}, {0, 1, 0}, {0, 0, 9}, {0, 0, -1}, {0, 0, 99}, {40, 1, 99}};
        for (int[] note : notes) {
            StrawButts x = Twin.busy();
            Check.due("note", 2, x.note(note[0], note[1], note[2]));
            Check.due("NOTES", 2, x.count(12));
        }
        for (int length = 3; length <= 20; length++) {
            StrawButts x = Check.on("green " + length + " 1;ring 0 1;archer 0 1 1 1");
            Check.due("the last PLACE", 1, x.note(0, 0, length - 1));
            Check.due("one behind it", -2, x.note(0, 0, length));
        }
        StrawButts five = Check.on(SIX + FIVE);
        Check.due("the last ARCHER", 1, five.note(0, 4, 0));
        Check.due("one behind them", -2, five.note(0, 5, 0));
    }

    private static StrawButts noted(int n) {
        StrawButts x = Twin.busy();
        for (int i = 2; i <= n; i++) {
            Check.due("note " + i, i, x.note(0, 0, 5));
        }
        return x;
    }

    /** Promise 30: "or if there are 10". */
    private static void tenNotes() {
        Check.due("a tenth", 10, noted(9).note(0, 0, 5));
        Twin.stays("an eleventh", -2, () -> noted(10), x -> x.note(0, 0, 5));
        Twin.stays("an eleventh that is not so", -2, () -> noted(10), x -> x.note(0, 0, 99));
        StrawButts x = noted(9);
        Check.due("nine are so", 1, x.ruled(0));
        Check.due("a tenth that is not so", 10, x.note(0, 0, 99));
        Check.due("it counts, too", 0, x.ruled(0));
    }

    /** Promise 30: "(n NONE: there are none then, 0)". */
    private static void noNotes() {
        for (int far : FAR) {
            StrawButts x = noted(10);
            Check.due("note NONE", 0, x.note(-1, far, far));
            Check.due("NOTES", 0, x.count(12));
            Check.due("none binds", 3, x.ruled(0));
            Check.due("the next is the first", 1, x.note(0, 0, 99));
        }
        StrawButts x = Check.on(Twin.GREEN);
        Check.due("none of none", 0, x.note(-1, 0, 0));
        Check.due("without a GREEN", 0, new StrawButts().note(-1, 0, 0));
        Check.due("no act", 0, x.count(13));
    }

    private static int fits(String green, int n, int place) {
        StrawButts x = Check.on(green);
        x.note(n, 0, place);
        return x.ruled(0);
    }

    /** Terms: "came down at a PLACE, or in the HEDGE (NONE), or they did not SHOOT (told as 99)". */
    private static void whatIsNoted() {
        String calm = "green 9 1;ring 0 1;archer 0 1 1 9";
        String gale = "green 9 1;wind 8;ring 8 1;archer 0 1 1 9";
        for (int place = -1; place < 9; place++) {
            Check.due("in PLACE 0, not " + place, place == 0 ? 1 : 0, fits(calm, 0, place));
            Check.due("in the HEDGE, not " + place, place == -1 ? 1 : 0, fits(gale, 0, place));
            Check.due("not shot, not " + place, 0, fits(calm, 1, place));
        }
        Check.due("shot", 0, fits(calm, 0, 99));
        Check.due("shot into the HEDGE", 0, fits(gale, 0, 99));
        Check.due("not shot", 1, fits(calm, 1, 99));
        Check.due("not shot", 1, fits(gale, 40, 99));
    }

    private static StrawButts inRound(int n) {
        StrawButts x = Check.on("green 9 1;ring 0 1;ring 3 1;archer 0 1 1 9;archer 1 1 1 9");
        Check.rule(x, "aim own if round=" + n);
        x.force(0);
        return x;
    }

    /** Terms: "in the n-th ROUND of all (0 to 40)"; so for LOOK. */
    private static void fortiethRound() {
        for (int n : new int[] {0, 1, 39, 40}) {
            StrawButts x = inRound(n);
            x.note(n, 1, 3);
            x.note(n == 40 ? 39 : n + 1, 1, 99);
            Check.due("in round " + n + ": skilled", 1022, x.skilled(1));
            Check.due("in round " + n + ": ails", 2, x.ails(1));
            // without a RULE all SHOOT in ROUND 0, and have no ARROWS then
            Check.due("in round " + n + ": ruled", n == 0 ? 2 : 1, x.ruled(0));
            x.note(n, 1, 99);
            Check.due("in round " + n + ": not so", 0, x.skilled(1));
        }
        for (int n : new int[] {1, 39, 40}) {
            Check.due("look for " + n, 1, inRound(n).look(n, 1));
            Check.due("look ahead of " + n, n == 1 ? 1 : 2, inRound(n).look(n - 1, 1));
        }
    }

    /** Promise 26: "NONE without that ARCHER". */
    private static void skilled() {
        for (int far : FAR) {
            Twin.stay("skilled " + far, -1, x -> x.skilled(far));
        }
        Twin.stay("skilled 2 of two", -1, x -> x.skilled(2));
        Twin.stay("skilled 0", 1022, x -> x.skilled(0));
        Twin.stay("skilled 1", 4, x -> x.skilled(1));
        Check.due("no ARCHERS", -1, Check.on(SIX).skilled(0));
        Check.due("the last of five", 1022, Check.on(SIX + FIVE).skilled(4));
        Check.due("a sixth of five", -1, Check.on(SIX + FIVE).skilled(5));
    }

    /** Promise 26: "as bits (1 to 9)". */
    private static void skilledByBits() {
        int[] drift = {8, 4, 2, 1, 0};
        int[] bits = {2, 4, 8 + 16, 32 + 64 + 128 + 256, 512};
        for (int i = 0; i < drift.length; i++) {
            StrawButts x = Check.on("green 20 1;wind 5;ring 3 1;archer 0 4 8 1");
            x.note(0, 0, 3 + drift[i]);
            Check.due("drift " + drift[i], bits[i], x.skilled(0));
        }
        StrawButts x = Check.on("green 20 1;wind 5;ring 3 1;archer 0 4 8 1");
        x.note(0, 0, 3 + 3);
        Check.due("drift 3 is none's", 0, x.skilled(0));
    }

    /** Promise 27: "NONE without that ARCHER". */
    private static void ails() {
        for (int far : FAR) {
            Twin.stay("ails " + far, -1, x -> x.ails(far));
        }
        Twin.stay("ails 2 of two", -1, x -> x.ails(2));
        Twin.stay("ails 1", 3, x -> x.ails(1));
        Check.due("no ARCHERS", -1, Check.on(SIX).ails(0));
        Check.due("the last of five", 63, Check.on(SIX + FIVE).ails(4));
        Check.due("a sixth of five", -1, Check.on(SIX + FIVE).ails(5));
    }

    /** Terms: "likewise RINGS that can be their OWN, as bits". */
    private static void ailsByBits() {
        Check.due("no NOTES", 63, Check.on(SIX + FIVE).ails(0));
        for (int ring = 0; ring < 6; ring++) {
            StrawButts x = Check.on(SIX + FIVE);
            x.note(0, 0, ring);
            Check.due("RING " + ring, 1 << ring, x.ails(0));
            x.note(1, 0, ring == 0 ? 1 : 0);
            Check.due("none", 0, x.ails(0));
        }
        StrawButts one = Check.on("green 9 1;ring 3 1;archer 0 1 1 1");
        Check.due("one RING", 1, one.ails(0));
    }

    /** Terms: "in place of what the text told .. from the begin on, by the RULE IN FORCE, all else as the text told it". */
    private static void fromTheBeginOn() {
        StrawButts x = Check.on("green 20 1;wind 5;wind 6;ring 3 1;archer 0 4 8 1;archer 0 2 4 1");
        x.note(0, 0, 3 + 2);
        x.note(0, 1, 3 + 4);
        x.breath(1);
        x.teach(1, 9);
        x.teach(0, 9);
        x.round();
        Check.due("skilled 0", 8 + 16, x.skilled(0));
        Check.due("skilled 1", 4, x.skilled(1));
        Check.due("ails 0", 1, x.ails(0));
        Check.due("ruled", 1, x.ruled(0));
        Check.rule(x, "aim 1 if archer=1");
        x.force(0);
        Check.due("by another RULE", 0, x.skilled(0));
        Check.due("ruled is not by the RULE IN FORCE", 1, x.ruled(0));
        x.note(-1, 0, 0);
        x.note(0, 1, 3 + 2);
        Check.due("alone in wind 5", 4, x.skilled(1));
    }

    /** Promise 31: "-3 for others, or without a GREEN". */
    private static void ruled() {
        for (int far : FAR) {
            Twin.stay("ruled " + far, -3, x -> x.ruled(far));
        }
        Twin.stay("ruled 2", -3, x -> x.ruled(2));
        Twin.stay("how many", 1, x -> x.ruled(0));
        Twin.stay("the first", 1, x -> x.ruled(1));
        Twin.stays("without a GREEN, but with RULES", -3, () -> {
            StrawButts x = new StrawButts();
            Check.rule(x, "aim 1");
            return x;
        }, x -> x.ruled(0));
    }

    private static StrawButts withSix() {
        StrawButts x = Check.on(SIX + ";archer 0 1 1 9");
        for (int i = 0; i < 6; i++) {
            Check.due("rule " + i, i, Check.rule(x, "aim 1 if ring=" + i));
        }
        return x;
    }

    /** Promise 31: "how many, 1: the first (NONE: none; -2: there is none such)"; terms: "none ahead of 0". */
    private static void ruledByNumbers() {
        Check.due("no RULES: none", 1, Check.on("green 3 0").ruled(0));
        Check.due("no RULES: none", -1, Check.on("green 3 0").ruled(1));
        Check.due("no NOTES: all seven", 7, withSix().ruled(0));
        Check.due("no NOTES: none is the first", -1, withSix().ruled(1));
        for (int ring = 0; ring < 6; ring++) {
            StrawButts x = withSix();
            x.note(2, 0, ring);
            // none aims at their OWN, as RULE 0 does
            Check.due("RING " + ring + ": how many", ring == 0 ? 2 : 1, x.ruled(0));
            Check.due("RING " + ring + ": the first", ring == 0 ? -1 : ring, x.ruled(1));
        }
        StrawButts x = withSix();
        x.note(2, 0, 8);
        Check.due("no one's", 0, x.ruled(0));
        Check.due("no one's", -2, x.ruled(1));
    }

    /** Promise 32: "NONE without these, or a GREEN"; terms: "(0 to 40)". */
    private static void look() {
        for (int what = 0; what < 2; what++) {
            int asked = what;
            for (int n : new int[] {Integer.MIN_VALUE, -2, -1, 41, 42, Integer.MAX_VALUE}) {
                Twin.stay("look for " + n, -1, x -> x.look(n, asked));
            }
            Twin.stay("look for 0", what, x -> x.look(0, asked));
            Twin.stay("look for 40", what, x -> x.look(40, asked));
            Twin.stays("without a GREEN", -1, StrawButts::new, x -> x.look(0, asked));
        }
        for (int far : FAR) {
            Twin.stay("look what " + far, -1, x -> x.look(0, far));
        }
        Twin.stay("look what 2", -1, x -> x.look(0, 2));
    }

    private static void lookIs(String rules, int who, int many) {
        StrawButts x = Check.on("green 9 3;ring 0 1;ring 1 1" + FIVE);
        for (String rule : rules.split("[|]")) {
            Check.due(rule, 0, Math.min(0, Check.rule(x, rule)));
        }
        Check.due(rules + ": who", who, x.look(0, 0));
        Check.due(rules + ": how many", many, x.look(0, 1));
    }

    /** Terms: "the ARCHER by what comes of their turn .. these part best: the most alike are fewest, of several the least". */
    private static void lookForSeveral() {
        lookIs("aim own", 0, 2);
        lookIs("aim own if archer=0", 1, 1);
        lookIs("aim 1 if ring=1", 0, 1);
        lookIs("aim own if archer<4;aim 1 if ring=1", 4, 1);
        lookIs("aim own if archer<4", 4, 1);
        lookIs("aim own|aim own|aim own|aim own|aim own|aim own", 0, 7);
        lookIs("aim 1 if ring=1|aim own|aim own|aim own|aim own|aim own", 0, 6);
        // of seven: 4 and 3 by archer 0, 3, 2 and 2 by archer 3
        lookIs("aim own if archer=0|aim own if archer=0|aim own if archer=0|aim 1 if archer=3 and ring=1"
            + "|aim 1 if archer=3 and ring=1|aim own", 3, 3);
    }

    /** Promise 32: "-2: no RULE is so, or there are no ARCHERS". */
    private static void lookForNothing() {
        for (int what = 0; what < 2; what++) {
            int asked = what;
            Twin.stays("no RULE is so", -2, () -> {
                StrawButts x = Twin.busy();
                x.note(0, 1, 99);
                return x;
            }, x -> x.look(0, asked));
            Twin.stays("no ARCHERS", -2, () -> Check.on(SIX), x -> x.look(40, asked));
            Twin.stays("no ARCHERS, n too much", -1, () -> Check.on(SIX), x -> x.look(41, asked));
        }
    }
}
