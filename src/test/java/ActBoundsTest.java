/** The bounds of promises 7 to 15 and 35, and of part II of the terms: what is there, acts, acts undone. */
public final class ActBoundsTest {
    private static final int[] FAR = {Integer.MIN_VALUE, -2, -1, 99, Integer.MAX_VALUE};
    private static final int[] WINDS = {4, 0, 8, 1, 7, 2, 6, 3, 5, 4, 8, 0};
    private static final String FULL = "green 20 20;wind 4;wind 0;wind 8;wind 1;wind 7;wind 2;wind 6;wind 3;wind 5;wind 4"
        + ";wind 8;wind 0;ring 0 1;ring 19 9;ring 5 2;ring 7 3;ring 9 4;ring 10 5"
        + ";archer 0 1 1 0;archer 1 9 9 30;archer 2 2 2 2;archer 3 3 3 3;archer 5 1 1 4";

    public static void main(String[] args) {
        rings();
        archers();
        winds();
        windsComeRound();
        driftTowardsNothing();
        hedge();
        lostAtAnotherPlace();
        wordsOfTheLastArcher();
        everyRuleInForce();
        illAtLeastNothing();
        whoShootsInARound();
        sumsAboveNothing();
        firstClauseThatHolds();
        ringOfSeveral();
        byHowAllIsThen();
        sumsGoRound();
        byNothing();
        bitsOfARound();
        roundWithoutAGreen();
        lastRound();
        shoots();
        pulls();
        pullsOfNinetyNine();
        breaths();
        lessons();
        twentyUndone();
        refusedIsNoAct();
        undoOfNone();
        counts();
        Check.finish();
    }

    private static StrawButts full() {
        return Check.on(FULL);
    }

    /** Promise 7: "NONE without these". */
    private static void rings() {
        StrawButts x = full();
        int[][] due = {{0, 1, 0}, {19, 9, 0}, {5, 2, 0}, {7, 3, 0}, {9, 4, 0}, {10, 5, 0}};
        for (int ring = 0; ring < 6; ring++) {
            for (int what = -1; what <= 3; what++) {
                int want = what < 0 || what > 2 ? -1 : due[ring][what];
                Check.due("ring " + ring + " " + what, want, x.ring(ring, what));
            }
        }
        for (int what = 0; what < 3; what++) {
            Check.due("a seventh ring", -1, x.ring(6, what));
            for (int far : FAR) {
                Check.due("ring " + far, -1, x.ring(far, what));
                Check.due("ring 0, what " + far, -1, x.ring(0, far));
            }
        }
        Check.due("a second of one", -1, Check.on("green 3 0;ring 0 1").ring(1, 0));
        Check.due("the first of none", -1, Check.on("green 3 0").ring(0, 0));
    }

    /** Promise 8: "NONE without these". */
    private static void archers() {
        StrawButts x = full();
        int[][] due = {{0, 1, 1, 0, 20}, {1, 9, 9, 30, 20}, {2, 2, 2, 2, 20}, {3, 3, 3, 3, 20}, {5, 1, 1, 4, 20}};
        for (int archer = 0; archer < 5; archer++) {
            for (int what = -1; what <= 5; what++) {
                int want = what < 0 || what > 4 ? -1 : due[archer][what];
                Check.due("archer " + archer + " " + what, want, x.archer(archer, what));
            }
        }
        for (int what = 0; what < 5; what++) {
            Check.due("a sixth archer", -1, x.archer(5, what));
            for (int far : FAR) {
                Check.due("archer " + far, -1, x.archer(far, what));
                Check.due("archer 0, what " + far, -1, x.archer(0, far));
            }
        }
        Check.due("a second of one", -1, Check.on("green 3 0;ring 0 1;archer 0 1 1 0").archer(1, 0));
        Check.due("the first of none", -1, Check.on("green 3 0;ring 0 1").archer(0, 0));
    }

    /** Promise 9: "The wind of a SHOT that comes round; NONE without it". */
    private static void winds() {
        StrawButts x = full();
        for (int shot = 0; shot < 12; shot++) {
            Check.due("wind " + shot, WINDS[shot], x.wind(shot));
        }
        Check.due("wind 12", -1, x.wind(12));
        x.breath(5);
        Check.due("wind 0, whatever SHOT it is", 4, x.wind(0));
        StrawButts two = Check.on("green 3 0;wind 1;wind 2");
        Check.due("the second of two", 2, two.wind(1));
        Check.due("a third of two", -1, two.wind(2));
        for (int far : FAR) {
            Check.due("wind " + far, -1, x.wind(far));
        }
    }

    /** Terms II: "of the winds told the one of the rest of SHOT by how many". Archer 4 drifts by the wind less 4. */
    private static void windsComeRound() {
        StrawButts x = full();
        for (int shot = 0; shot < 50; shot++) {
            Check.due("down in SHOT " + shot, 10 + WINDS[shot % 12] - 4, x.down(4, 5));
            Check.due("SHOT", shot + 1, x.breath(1));
        }
        StrawButts one = Check.on("green 20 9;wind 5;ring 10 1;archer 0 1 1 1");
        one.breath(20);
        Check.due("one wind is that of all", 11, one.down(0, 0));
        StrawButts still = Check.on("green 20 9;ring 10 1;archer 0 1 9 1");
        still.breath(7);
        Check.due("none is 4", 10, still.down(0, 0));
    }

    /** Terms II: "* AWAY / SKILL, towards 0". */
    private static void driftTowardsNothing() {
        for (int away = 1; away <= 9; away++) {
            for (int skill = 1; skill <= 9; skill++) {
                StrawButts x = Check.on("green 20 0;wind 0;wind 1;wind 2;wind 3;wind 4;wind 5;wind 6;wind 7;wind 8"
                    + ";ring 9 1;archer 0 " + skill + " " + away + " 0");
                for (int wind = 0; wind < 9; wind++) {
                    int far = Math.abs(wind - 4) * away / skill;
                    int place = wind < 4 ? 9 - far : 9 + far;
                    String name = "away " + away + " skill " + skill + " wind " + wind;
                    Check.due(name, place < 0 || place > 19 ? -2 : place, x.down(0, 0));
                    x.breath(1);
                }
            }
        }
    }

    /** Terms II: "out of the GREEN it is in the HEDGE": PLACES 0 and LONG - 1 are in it, the next are not. */
    private static void hedge() {
        StrawButts low = Check.on("green 5 9;wind 3;ring 0 1;ring 1 1;archer 0 1 1 9");
        Check.due("0 - 1", -2, low.down(0, 0));
        Check.due("0 - 1", -2, low.shoot(0, 0));
        Check.due("is in the HEDGE", 1, low.count(11));
        Check.due("sticks nowhere", 0, low.ring(0, 2) + low.ring(1, 2));
        Check.due("1 - 1", 0, low.down(0, 1));
        Check.due("1 - 1", 0, low.shoot(0, 1));
        Check.due("is in PLACE 0", 1, low.ring(0, 2));
        Check.due("not in the HEDGE", 1, low.count(11));
        for (int length : new int[] {5, 20}) {
            StrawButts high = Check.on("green " + length + " 9;wind 5;ring " + (length - 1) + " 1;ring " + (length - 2)
                + " 1;archer 0 1 1 9");
            Check.due("LONG - 1 + 1", -2, high.down(0, 0));
            Check.due("LONG - 1 + 1", -2, high.shoot(0, 0));
            Check.due("is in the HEDGE", 1, high.count(11));
            Check.due("LONG - 2 + 1", length - 1, high.down(0, 1));
            Check.due("LONG - 2 + 1", length - 1, high.shoot(0, 1));
            Check.due("not in the HEDGE", 1, high.count(11));
            Check.due("but in the RING", 1, high.ring(0, 2));
        }
        StrawButts farthest = Check.on("green 20 2;wind 8;wind 0;ring 0 1;ring 19 1;archer 0 1 9 9");
        Check.due("36 up", -2, farthest.shoot(0, 0));
        Check.due("36 down", -2, farthest.shoot(0, 1));
        Check.due("both are in the HEDGE", 2, farthest.count(11));
        Check.due("no ARROWS are left", 0, farthest.count(10));
    }

    /** Terms II: "at another PLACE it is lost". */
    private static void lostAtAnotherPlace() {
        StrawButts x = Check.on("green 5 9;wind 5;ring 0 1;ring 2 1;archer 0 1 1 9");
        Check.due("0 + 1", 1, x.shoot(0, 0));
        int[] due = {0, 1, 9, 8, 0};
        for (int what = 7; what < 12; what++) {
            Check.due("lost: count " + what, due[what - 7], x.count(what));
        }
        Check.due("sticks nowhere", 0, x.ring(0, 2) + x.ring(1, 2));
        StrawButts full = full();
        full.breath(3);
        Check.due("10 - 3", 7, full.shoot(4, 5));
        full.breath(3);
        Check.due("10 - 1", 9, full.shoot(4, 5));
        full.breath(3);
        Check.due("10 - 4: lost", 6, full.shoot(4, 5));
        int[] places = {0, 19, 5, 7, 9, 10};
        int[] eases = {1, 9, 2, 3, 4, 5};
        int[] stuck = {0, 0, 0, 1, 1, 0};
        for (int ring = 0; ring < 6; ring++) {
            Check.due("of six: PLACE", places[ring], full.ring(ring, 0));
            Check.due("of six: EASES", eases[ring], full.ring(ring, 1));
            Check.due("of six: ARROWS", stuck[ring], full.ring(ring, 2));
        }
        Check.due("ILL of all", 39, full.count(9));
    }

    /** Terms: "WORDS .. of an ARCHER who has ARROWS and a RING": here of the last of each. */
    private static void wordsOfTheLastArcher() {
        String[] facts = {"archer=4", "ring=5", "own=1", "place=10", "eases=5", "stuck=2", "skill=3", "away=7", "ill=4",
            "arrows=18", "wind=3", "drift=0-2", "round=1"};
        for (String fact : facts) {
            for (int not = 0; not < 2; not++) {
                StrawButts x = Check.on("green 20 20;wind 4;wind 4;wind 3;ring 0 1;ring 19 9;ring 5 2;ring 7 3;ring 9 4"
                    + ";ring 10 5;archer 0 1 1 0;archer 1 9 9 30;archer 2 2 2 2;archer 3 1 1 3;archer 5 3 7 14");
                Check.rule(x, "aim 0");
                Check.rule(x, "aim 1 if archer=4 and ring=5 and " + (not == 0 ? "" : "not ") + fact);
                x.force(0);
                x.round();
                x.shoot(4, 5);
                x.shoot(4, 5);
                x.force(1);
                x.round();
                Check.due("of the last: " + (not == 0 ? "" : "not ") + fact, not == 0 ? 17 : 18, x.archer(4, 4));
            }
        }
    }

    /** Terms II: "the RULE IN FORCE's ..": each of the six, and none. */
    private static void everyRuleInForce() {
        StrawButts x = Check.on("green 9 20;ring 0 1;ring 1 1;ring 2 1;ring 3 1;ring 4 1;ring 5 1;archer 3 1 1 9");
        for (int rule = 0; rule < 6; rule++) {
            Check.due("rule " + rule, rule, Check.rule(x, "aim 1 if ring=" + (5 - rule)));
        }
        for (int rule = -1; rule < 6; rule++) {
            x.force(rule);
            int ring = rule < 0 ? 3 : 5 - rule;
            int was = x.ring(ring, 2);
            Check.due("by rule " + rule, ring == 3 ? 1 : 0, x.round());
            Check.due("by rule " + rule, was + 1, x.ring(ring, 2));
        }
    }

    /** Terms II: "ILL is EASES less (0 at least)". */
    private static void illAtLeastNothing() {
        int[][] cases = {{4, 3, 1}, {3, 3, 0}, {2, 3, 0}, {0, 3, 0}, {30, 9, 21}, {1, 9, 0}, {1, 1, 0}};
        for (int[] c : cases) {
            StrawButts x = Check.on("green 3 2;ring 1 " + c[1] + ";archer 0 1 1 " + c[0]);
            Check.due("hits", 1, x.round());
            Check.due("ILL " + c[0] + " less " + c[1], c[2], x.archer(0, 3));
            Check.due("of all", c[2], x.count(9));
        }
        StrawButts other = Check.on("green 3 2;ring 0 9;ring 1 9;archer 0 1 1 5");
        other.shoot(0, 1);
        Check.due("by another RING than their OWN none", 5, other.archer(0, 3));
    }

    /** Terms II: "ARCHERS by numbers who have ARROWS". */
    private static void whoShootsInARound() {
        StrawButts x = Check.on("green 3 1;ring 1 1;archer 0 1 1 5;archer 0 1 1 5");
        x.shoot(0, 0);
        Check.due("archer 1 alone", 2, x.round());
        Check.due("SHOT", 2, x.count(8));
        Check.due("nobody", 0, x.round());
        Check.due("SHOT", 2, x.count(8));
        Check.due("ROUND", 2, x.count(7));
        Check.due("ARROWS", 0, x.count(10));
        StrawButts none = Check.on("green 3 0;ring 1 1;archer 0 1 1 5");
        Check.due("QUIVER 0", 0, none.round());
        Check.due("QUIVER 0: SHOT", 0, none.count(8));
        Check.due("no ARCHERS", 0, Check.on("green 3 0").round());
    }

    private static StrawButts ruled(String rule) {
        StrawButts x = Check.on("green 9 5;wind 4;wind 3;ring 1 1;ring 3 2;ring 8 3;archer 2 1 1 9;archer 0 1 1 9");
        Check.due(rule, 0, Check.rule(x, rule));
        x.force(0);
        return x;
    }

    /** Archer 0 is in SHOT 0 and wind 4, so arrows come down where they aim; NONE: they do not SHOOT. */
    private static void aims(String rule, int ring) {
        StrawButts x = ruled(rule);
        x.round();
        int due = ring < 0 ? 5 : 4;
        Check.due(rule + ": ARROWS", due, x.archer(0, 4));
        for (int r = 0; r < 3; r++) {
            // archer 1 shoots in wind 3 by these rules or not at all, and so sticks in no RING
            Check.due(rule + ": RING " + r, r == ring ? 1 : 0, x.ring(r, 2));
        }
    }

    /** Terms II: "is greatest, if it is above 0 .. (they do not SHOOT, if none is such)". */
    private static void sumsAboveNothing() {
        aims("aim 0", -1);
        aims("aim 0-1", -1);
        aims("aim 1 if ring=1", 1);
        aims("aim ring-1", 2);
        aims("aim 1-ring", 0);
        aims("aim 0-ring", -1);
        aims("aim ring-2", -1);
        aims("aim ring", 2);
        aims("aim drift", -1);
    }

    /** Terms II: "the SUM of the .. first CLAUSE without a TEST, or whose TEST holds (0 without)". */
    private static void firstClauseThatHolds() {
        aims("aim 1 if ring=7", -1);
        aims("aim 0;aim 5", -1);
        aims("aim 0-5 if ring=0;aim 1 if ring=0;aim 1 if ring=1", 1);
        aims("aim 2 if ring=2;aim 3 if ring=0;aim 9", 1);
        aims("aim 1 if ring=9;aim 0", -1);
        aims("aim 1 if ring=2;aim 2 if ring=2", 2);
        String never = "aim 9 if 1=2;".repeat(11);
        aims(never + "aim ring", 2);
        aims(never + "aim 1 if ring=1", 1);
    }

    /** Terms II: "of several the least". */
    private static void ringOfSeveral() {
        aims("aim 1", 0);
        aims("aim 1 if ring>0", 1);
        aims("aim 2 if not ring=0", 1);
        aims("aim 3-ring/2", 0);
        aims("aim 1+ring/2*2-ring%2", 2);
        aims("aim 1+ring%2*5", 1);
    }

    /** Terms II: "each by how all is then". */
    private static void byHowAllIsThen() {
        StrawButts x = ruled("aim 1 if archer=0 and ring=0;aim 1 if archer=1 and ring=2 and wind=3 and drift=0-1");
        x.round();
        Check.due("the second SHOT has its own wind", 4, x.archer(1, 4));
        StrawButts y = ruled("aim 1 if ring=1 and stuck=archer");
        y.round();
        Check.due("archer 1 sees what sticks", 8, y.count(10));
        StrawButts z = ruled("aim 1 if ring=1 and stuck=0");
        z.round();
        Check.due("archer 1 sees what sticks", 9, z.count(10));
        StrawButts still = Check.on("green 9 3;ring 1 4;archer 0 1 1 9");
        Check.rule(still, "aim 1 if ill>4 or arrows=1");
        still.force(0);
        int[] arrows = {2, 1, 0, 0};
        int[] ill = {5, 1, 0, 0};
        for (int i = 0; i < 4; i++) {
            still.round();
            Check.due("arrows by ill, and by arrows", arrows[i], still.archer(0, 4));
            Check.due("ill", ill[i], still.archer(0, 3));
        }
    }

    private static void holds(String fact) {
        aims("aim 1 if ring=1 and [" + fact + "]", 1);
        aims("aim 1 if ring=1 and not[" + fact + "]", -1);
    }

    /** Terms: "all goes round in 64 bits". 8 * 32768^4 is 2^63, which is the least number then. */
    private static void sumsGoRound() {
        String least = "8*32768*32768*32768*32768";
        holds(least + "<0");
        holds(least + "-1>0");
        holds(least + "-1+1<0");
        holds(least + "+" + least + "=0");
        holds("2*" + least + "=0");
        holds("4*32768*32768*32768*32768>0");
        holds("0-" + least + "=" + least);
        holds("65536*65536>65535");
        aims("aim 65536*65536 if ring=2;aim 5", 2);
        aims("aim 65536*65536*32768 if ring=1;aim 65536*65536*32767", 1);
        aims("aim " + least, -1);
        aims("aim " + least + "-1", 0);
        // the least number by -1 is itself, and leaves nothing: a drift of -1 is in wind 3
        StrawButts x = ruled("aim 1 if archer=0 and ring=0;aim 1 if ring=2 and " + least + "/drift<0 and " + least
            + "%drift=0");
        x.round();
        Check.due("by -1", 4, x.archer(1, 4));
    }

    /** Terms: "/ is towards 0, % its rest, both 0 by 0". */
    private static void byNothing() {
        holds("7/0=0");
        holds("7%0=0");
        holds("0/0=0 and 0%0=0");
        holds("7/0*5+1=1");
        holds("7/drift=0 and 7%drift=0");
        holds("7/3=2 and 7%3=1");
        StrawButts x = ruled("aim 1 if archer=0 and ring=0;aim 1 if ring=2 and drift*7/3=0-2 and drift*7%3=0-1"
            + " and 7/drift=0-7 and drift*2/3=0 and drift*2%3=0-2");
        x.round();
        Check.due("below 0", 4, x.archer(1, 4));
    }

    /** Promise 10: "who hits their OWN in it, as bits". */
    private static void bitsOfARound() {
        String begin = "green 9 3;ring 0 1;ring 4 1;archer 0 1 1 0;archer 1 1 1 1";
        StrawButts x = Check.on(begin + ";archer 1 1 1 1;archer 1 1 1 1;archer 0 1 1 1");
        Check.due("all", 31, x.round());
        Check.rule(x, "aim 1 if ring=0");
        Check.rule(x, "aim 1-own");
        x.force(0);
        Check.due("the first and the last", 17, x.round());
        x.force(1);
        Check.due("none", 0, x.round());
        Check.due("no ARROWS", 0, x.round());
    }

    /** Promise 10: "NONE, and nothing happens, without a GREEN". */
    private static void roundWithoutAGreen() {
        Twin.stays("round", -1, () -> {
            StrawButts x = new StrawButts();
            Check.rule(x, "aim 1");
            x.force(0);
            return x;
        }, StrawButts::round);
        Check.due("with one of no RINGS", 0, Check.on("green 3 0").round());
    }

    private static StrawButts rounds(int n) {
        StrawButts x = Check.on("green 3 4;ring 1 9;archer 0 1 1 9");
        Check.rule(x, "aim 1 if round=1000");
        x.force(0);
        for (int i = 0; i < n; i++) {
            x.round();
        }
        return x;
    }

    /**
     * Promise 10: "NONE, and nothing happens .. in ROUND 999"; terms II: "ROUNDS that are asked go on
     * beyond". It takes more than the 512 calls that are promised: held all the same.
     */
    private static void lastRound() {
        StrawButts x = rounds(998);
        Check.due("in ROUND 998", 0, x.round());
        Check.due("ROUND", 999, x.count(7));
        Twin.stays("in ROUND 999", -1, () -> rounds(999), StrawButts::round);
        Check.due("in ROUND 999", -1, x.round());
        Check.due("ROUND stays", 999, x.count(7));
        Check.due("no act is kept for it", 20, x.count(13));
        Check.due("ahead 1", 9, x.ahead(0, 1, 0));
        Check.due("ahead 2", 0, x.ahead(0, 2, 0));
        Check.due("eased", 1000, x.eased(0));
        Check.due("allEased", 1000, x.allEased());
        Check.due("shoot goes on", 1, x.shoot(0, 0));
        Check.due("the shot is undone", 19, x.undo());
        Check.due("a round is undone", 18, x.undo());
        Check.due("ROUND", 998, x.count(7));
        Check.due("round", 0, x.round());
        Check.due("round", -1, x.round());
    }

    /** Promise 11: "NONE, and nothing happens, without these": an ARCHER who has ARROWS, a RING. */
    private static void shoots() {
        for (int far : FAR) {
            Twin.stay("archer " + far + " shoots", -1, x -> x.shoot(far, 0));
            Twin.stay("shoots at ring " + far, -1, x -> x.shoot(0, far));
        }
        Twin.stay("archer 2 of two", -1, x -> x.shoot(2, 0));
        Twin.stay("ring 2 of two", -1, x -> x.shoot(0, 2));
        StrawButts x = Twin.busy();
        Check.due("one of two ARROWS", 6, x.shoot(0, 0));
        Check.due("the last ARROW", 2, x.shoot(0, 0));
        Check.due("none is left", 0, x.archer(0, 4));
        Check.due("no more", -1, x.shoot(0, 0));
        Twin.stays("without ARROWS", -1, () -> {
            StrawButts y = Twin.busy();
            y.shoot(0, 0);
            y.shoot(0, 1);
            return y;
        }, y -> y.shoot(0, 0));
        StrawButts full = full();
        Check.due("the last archer at the last ring", 10, full.shoot(4, 5));
        Check.due("the last ring", 1, full.ring(5, 2));
        Check.due("a sixth archer", -1, full.shoot(5, 0));
        Check.due("a seventh ring", -1, full.shoot(0, 6));
    }

    /** Promise 12: "NONE, and nothing happens, without these": a RING in which one sticks at least, an ARCHER. */
    private static void pulls() {
        for (int far : FAR) {
            Twin.stay("archer " + far + " pulls", -1, x -> x.pull(0, far));
            Twin.stay("pulls of ring " + far, -1, x -> x.pull(far, 0));
        }
        Twin.stay("archer 2 of two", -1, x -> x.pull(0, 2));
        Twin.stay("ring 2 of two", -1, x -> x.pull(2, 0));
        StrawButts x = Twin.busy();
        Check.due("one sticks", 1, x.ring(0, 2));
        Check.due("one is pulled", 3, x.pull(0, 0));
        Check.due("none sticks", 0, x.ring(0, 2));
        Check.due("none is pulled", -1, x.pull(0, 0));
        Check.due("three are pulled", 5, x.pull(1, 1));
        Check.due("the other one has as many", 3, x.archer(0, 4));
        Twin.stays("nothing sticks", -1, () -> {
            StrawButts y = Twin.busy();
            y.pull(0, 1);
            return y;
        }, y -> y.pull(0, 0));
        StrawButts full = full();
        full.shoot(4, 5);
        Check.due("the first archer, of the last ring", 21, full.pull(5, 0));
        for (int ring = 0; ring < 6; ring++) {
            StrawButts six = Check.on("green 9 20;ring 0 1;ring 1 1;ring 2 1;ring 3 1;ring 4 1;ring 5 1;archer 3 1 1 9");
            for (int i = 0; i < 18; i++) {
                six.shoot(0, i % 6);
            }
            Check.due("of ring " + ring, 5, six.pull(ring, 0));
            for (int other = 0; other < 6; other++) {
                Check.due("of ring " + ring + ", in " + other, other == ring ? 0 : 3, six.ring(other, 2));
            }
            Check.due("of ring " + ring + " again", -1, six.pull(ring, 0));
            Check.due("EASES", 1, six.ring(5, 1));
        }
    }

    /** Terms, ACTS: "an ARCHER has, 99 at most; more are lost". */
    private static void pullsOfNinetyNine() {
        StrawButts x = Check.on("green 3 20;ring 0 1" + ";archer 0 1 1 1".repeat(5));
        for (int i = 0; i < 19; i++) {
            x.round();
        }
        Check.due("95 and 1", 96, x.pull(0, 3));
        x.shoot(0, 0);
        Check.due("and 1", 97, x.pull(0, 3));
        x.shoot(1, 0);
        Check.due("and 1", 98, x.pull(0, 3));
        x.shoot(2, 0);
        Check.due("and 1: none is lost", 99, x.pull(0, 3));
        Check.due("all ARROWS", 100, x.count(10));
        x.shoot(4, 0);
        Check.due("and 1, which is lost", 99, x.pull(0, 3));
        Check.due("all ARROWS", 99, x.count(10));
        Check.due("nothing sticks", 0, x.ring(0, 2));
        Check.due("an act all the same", 19, x.undo());
        Check.due("it sticks again", 1, x.ring(0, 2));
        Check.due("99 as before", 99, x.archer(3, 4));
        Check.due("another one has it", 1, x.pull(0, 4));
        Check.due("all ARROWS", 100, x.count(10));
        StrawButts many = Check.on("green 3 20;ring 0 1" + ";archer 0 1 1 1".repeat(5));
        for (int i = 0; i < 20; i++) {
            many.round();
        }
        Check.due("100 stick", 100, many.ring(0, 2));
        Check.due("99 of 100", 99, many.pull(0, 0));
        Check.due("all ARROWS", 99, many.count(10));
        Check.due("nothing is left to pull", -1, many.pull(0, 1));
    }

    /** Promise 13, and terms, ACTS: "BREATH (1 to 20 SHOTS go by without any ARROW)". */
    private static void breaths() {
        for (int shots : new int[] {Integer.MIN_VALUE, -20, -1, 0, 21, 22, 100, Integer.MAX_VALUE}) {
            Twin.stay("breath " + shots, -1, x -> x.breath(shots));
        }
        for (int shots = 1; shots <= 20; shots++) {
            StrawButts x = Twin.busy();
            Check.due("breath " + shots, 7 + shots, x.breath(shots));
            Check.due("SHOT", 7 + shots, x.count(8));
            Check.due("ROUND", 1, x.count(7));
            Check.due("no ARROW", 4, x.count(10));
        }
        Twin.stays("without a GREEN", -1, StrawButts::new, x -> x.breath(1));
        Check.due("without ARCHERS", 20, Check.on("green 3 0").breath(20));
    }

    /** Promise 14, and terms, ACTS: "TEACH (an ARCHER has another SKILL, 1 to 9)". */
    private static void lessons() {
        for (int far : FAR) {
            Twin.stay("teach archer " + far, -1, x -> x.teach(far, 5));
            Twin.stay("teach skill " + far, -1, x -> x.teach(0, far));
        }
        Twin.stay("archer 2 of two", -1, x -> x.teach(2, 5));
        Twin.stay("skill 0", -1, x -> x.teach(0, 0));
        Twin.stay("skill 10", -1, x -> x.teach(0, 10));
        Twin.stay("the skill that it is", -1, x -> x.teach(0, 1));
        Twin.stay("the skill that it was taught", -1, x -> x.teach(1, 7));
        StrawButts x = Twin.busy();
        Check.due("the most", 1, x.teach(0, 9));
        Check.due("the most again", -1, x.teach(0, 9));
        Check.due("the least", 9, x.teach(0, 1));
        Check.due("the least again", -1, x.teach(0, 1));
        Check.due("the one that the text told", 7, x.teach(1, 2));
        Check.due("the last archer", 1, full().teach(4, 2));
    }

    /** Terms, ACTS: "The last 20 can be UNDONE, the last first"; promise 15: "how many more can be". */
    private static void twentyUndone() {
        for (int acts : new int[] {1, 19, 20, 21, 45}) {
            StrawButts x = Check.on(Twin.GREEN);
            for (int i = 0; i < acts; i++) {
                Check.due("breath", i + 1, x.breath(1));
                Check.due("that can be UNDONE", Math.min(20, i + 1), x.count(13));
            }
            int can = Math.min(20, acts);
            for (int i = can - 1; i >= 0; i--) {
                Check.due("undo of " + acts, i, x.undo());
                Check.due("SHOT", acts - can + i, x.count(8));
            }
            Check.due("no more of " + acts, -1, x.undo());
            Check.due("SHOT stays", acts - can, x.count(8));
        }
        // acts of all kinds, between which some are undone
        StrawButts x = Check.on(Twin.GREEN);
        x.round();
        x.shoot(0, 0);
        Check.due("undo", 1, x.undo());
        x.pull(0, 1);
        x.teach(0, 4);
        Check.due("undo", 2, x.undo());
        Check.due("undo", 1, x.undo());
        Check.due("sticks again", 1, x.ring(0, 2));
        Check.due("undo", 0, x.undo());
        Check.due("as at first", 11, x.count(9));
        Check.due("as at first", 8, x.count(10));
        Check.due("as at first", 0, x.count(7) + x.count(8) + x.ring(0, 2) + x.ring(1, 2));
    }

    /** "nothing happens": what is refused, asked or told is no ACT. */
    private static void refusedIsNoAct() {
        StrawButts x = Check.on(Twin.GREEN);
        x.shoot(9, 9);
        x.pull(0, 0);
        x.breath(0);
        x.teach(0, 1);
        x.note(0, 0, 0);
        x.seed(4);
        x.image(0);
        Check.rule(x, "aim 1");
        x.force(0);
        x.ahead(0, 9, 0);
        x.given(9, 0);
        Check.due("no ACTS", 0, x.count(13));
        x.breath(1);
        Check.due("one", 1, x.count(13));
        x.force(-1);
        x.seed(5);
        x.note(1, 1, 1);
        Check.due("undone", 0, x.undo());
        Check.due("what is told stays: the rule in force", -1, x.count(6));
        Check.due("what is told stays: x", 5, x.count(14));
        Check.due("what is told stays: notes", 2, x.count(12));
    }

    /** Promise 15: "NONE, and nothing happens: none can". */
    private static void undoOfNone() {
        Twin.stays("undo of a new one", -1, StrawButts::new, StrawButts::undo);
        Twin.stays("undo of a green", -1, () -> Check.on(Twin.GREEN), StrawButts::undo);
        Twin.stays("undo once too often", -1, () -> {
            StrawButts x = Twin.busy();
            for (int i = 4; i >= 0; i--) {
                Check.due("undo", i, x.undo());
            }
            return x;
        }, StrawButts::undo);
    }

    /** Promise 35: "NONE for others". */
    private static void counts() {
        int[] due = {10, 4, 2, 2, 2, 2, 1, 1, 7, 4, 4, 0, 1, 5, 77, 41};
        StrawButts x = Twin.busy();
        for (int what = 0; what < 16; what++) {
            Check.due("count " + what, due[what], x.count(what));
        }
        for (int what : new int[] {Integer.MIN_VALUE, -2, -1, 16, 17, Integer.MAX_VALUE}) {
            Twin.stay("count " + what, -1, y -> y.count(what));
            Check.due("new: count " + what, -1, new StrawButts().count(what));
        }
        int[] full = {20, 20, 12, 6, 5, 0, -1, 0, 0, 39, 100, 0, 0, 0, 0, 0};
        StrawButts most = full();
        for (int what = 0; what < 16; what++) {
            Check.due("most: count " + what, full[what], most.count(what));
        }
    }
}
