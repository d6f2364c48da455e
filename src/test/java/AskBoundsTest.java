/** The bounds of promises 16 to 25, 28 and 29: how it goes on, and what had best be done. */
public final class AskBoundsTest {
    private static final int[] FAR = {Integer.MIN_VALUE, -2, -1, 101, Integer.MAX_VALUE};
    private static final String FIVE = ";archer 0 1 1 0;archer 0 1 1 0;archer 0 1 1 0;archer 0 1 1 0;archer 0 1 1 1";

    public static void main(String[] args) {
        ahead();
        aheadOfHundred();
        aheadOfQuietRounds();
        eased();
        allEased();
        twoHundredRounds();
        down();
        bestAim();
        bestAimOfSeveral();
        row();
        rowOfSeveral();
        hold();
        leastSkill();
        leastSkillOfForty();
        set();
        setAtTheEdges();
        setOfForty();
        given();
        givenOfNinetyNine();
        givenOfForty();
        rests();
        restsByOneAnother();
        restsOfTheWell();
        restsOfNone();
        restsOfTwenty();
        pence();
        penceLeft();
        Check.finish();
    }

    private static StrawButts by(String green, String rule) {
        StrawButts x = Check.on(green);
        Check.due(rule, 0, Check.rule(x, rule));
        x.force(0);
        return x;
    }

    /** Promise 16: "NONE without these, or a GREEN"; terms: "AHEAD n ROUNDS (0 to 100)". */
    private static void ahead() {
        for (int what = 0; what < 3; what++) {
            int asked = what;
            for (int n : new int[] {Integer.MIN_VALUE, -2, -1, 101, 102, Integer.MAX_VALUE}) {
                Twin.stay("ahead " + n + " what " + what, -1, x -> x.ahead(0, n, asked));
            }
        }
        for (int far : FAR) {
            Twin.stay("ahead of archer " + far, -1, x -> x.ahead(far, 1, 0));
            Twin.stay("ahead of archer " + far, -1, x -> x.ahead(far, 1, 1));
            Twin.stay("ahead, the archer is not asked " + far, 0, x -> x.ahead(far, 1, 2));
            Twin.stay("ahead what " + far, -1, x -> x.ahead(0, 1, far));
        }
        Twin.stay("ahead of archer 2 of two", -1, x -> x.ahead(2, 0, 0));
        Twin.stay("ahead what 3", -1, x -> x.ahead(0, 0, 3));
        int[] due = {4, 2, 0};
        int[] then = {4, 0, 0};
        for (int what = 0; what < 3; what++) {
            int asked = what;
            Twin.stay("ahead 0 what " + what, due[what], x -> x.ahead(0, 0, asked));
            Twin.stay("ahead 100 what " + what, then[what], x -> x.ahead(0, 100, asked));
        }
        Twin.stay("ahead of the last archer", 1, x -> x.ahead(1, 1, 1));
        Check.due("a green of no archers", 0, Check.on("green 3 0").ahead(0, 100, 2));
        Check.due("a green of no archers", -1, Check.on("green 3 0").ahead(0, 100, 0));
    }

    /** Terms: "AHEAD n ROUNDS (0 to 100)": all of these are played, and no more. */
    private static void aheadOfHundred() {
        StrawButts x = by("green 3 2;wind 8;ring 1 1;archer 0 1 1 1", "aim 1 if round=99 or round=100");
        int[] n = {0, 1, 99, 100};
        int[] hedge = {0, 0, 0, 1};
        for (int i = 0; i < n.length; i++) {
            Check.due("ahead " + n[i], hedge[i], x.ahead(0, n[i], 2));
            Check.due("ahead " + n[i], 2 - hedge[i], x.ahead(0, n[i], 1));
        }
        StrawButts y = Check.on("green 3 20;wind 8;ring 1 1" + FIVE);
        Check.due("19 rounds", 95, y.ahead(0, 19, 2));
        Check.due("20 rounds", 100, y.ahead(0, 20, 2));
        Check.due("no more", 100, y.ahead(0, 100, 2));
        StrawButts one = by("green 3 1;ring 1 1;archer 0 1 1 1", "aim 1 if round=50");
        Check.due("the only ARROW, 50", 1, one.ahead(0, 50, 0));
        Check.due("the only ARROW, 51", 0, one.ahead(0, 51, 0));
        StrawButts later = by("green 3 9;ring 1 1;archer 0 1 1 9", "aim round");
        Check.due("round 0 is not above 0", 9, later.ahead(0, 1, 0));
        Check.due("round 1 is", 8, later.ahead(0, 2, 0));
        StrawButts last = by("green 3 9;ring 1 1;archer 0 1 1 9", "aim round-98");
        Check.due("round 98", 9, last.ahead(0, 99, 0));
        Check.due("round 99", 8, last.ahead(0, 100, 0));
    }

    /** Terms: ROUNDS in which nobody SHOOTS, or that look like such, do not keep later ones from coming. */
    private static void aheadOfQuietRounds() {
        StrawButts well = by("green 3 2;ring 0 1;archer 0 1 1 0", "aim 1 if round=5");
        Check.due("ILL 0, 5 rounds", 2, well.ahead(0, 5, 1));
        Check.due("ILL 0, 6 rounds", 1, well.ahead(0, 6, 1));
        Check.due("ILL 0, 7 rounds", 1, well.ahead(0, 7, 1));
        StrawButts x = by("green 3 9;ring 1 1;archer 0 1 1 9", "aim 0");
        x.round();
        Check.due("nobody shoots", 9, x.ahead(0, 100, 0));
        x.force(-1);
        Check.due("ROUND 1, SHOT 0", 6, x.ahead(0, 3, 0));
        x.breath(3);
        Check.due("as many SHOTS as the GREEN is long", 6, x.ahead(0, 3, 0));
        // in wind 8 the rule lets it go by for good, until a breath
        StrawButts wind = by("green 9 9;wind 4;wind 8;ring 1 1;archer 0 1 1 9", "aim 1 if wind=4");
        Check.due("one, then none", 8, wind.ahead(0, 100, 0));
        wind.round();
        Check.due("none", 8, wind.ahead(0, 100, 0));
        wind.breath(1);
        Check.due("one more", 7, wind.ahead(0, 100, 0));
    }

    /** Promise 17: "NONE without that ARCHER". */
    private static void eased() {
        for (int far : FAR) {
            Twin.stay("eased " + far, -1, x -> x.eased(far));
        }
        Twin.stay("eased 2 of two", -1, x -> x.eased(2));
        Twin.stay("behind none", -2, x -> x.eased(0));
        Twin.stay("ILL 0 already: this ROUND", 1, x -> x.eased(1));
        StrawButts x = Check.on("green 3 1;ring 1 3;archer 0 1 1 3;archer 0 1 1 4");
        Check.due("by the first", 0, x.eased(0));
        Check.due("one ARROW is not enough", -2, x.eased(1));
    }

    /** Promise 18: "-2: behind none of these; NONE without a GREEN". */
    private static void allEased() {
        Twin.stay("behind none", -2, StrawButts::allEased);
        Twin.stays("without a GREEN", -1, StrawButts::new, StrawButts::allEased);
        Check.due("one is not", -2, Check.on("green 3 1;ring 1 3;archer 0 1 1 3;archer 0 1 1 4").allEased());
        Check.due("both are", 0, Check.on("green 3 1;ring 1 4;archer 0 1 1 3;archer 0 1 1 4").allEased());
        Check.due("the later one", 1, Check.on("green 3 2;ring 1 4;archer 0 1 1 5;archer 0 1 1 4").allEased());
        StrawButts five = Check.on("green 3 9;ring 1 1;archer 0 1 9 2;archer 0 1 9 1;archer 0 1 9 3;archer 0 1 9 0"
            + ";archer 0 1 9 4");
        Check.due("of five", 3, five.allEased());
        int[] each = {1, 0, 2, 0, 3};
        for (int archer = 0; archer < 5; archer++) {
            Check.due("of five, " + archer, each[archer], five.eased(archer));
        }
        StrawButts nobody = Check.on("green 3 2");
        nobody.round();
        nobody.round();
        Check.due("of no ARCHERS this ROUND", 2, nobody.allEased());
    }

    /** Terms: "the first ROUND, this one the first, of 200". */
    private static void twoHundredRounds() {
        for (int begin : new int[] {0, 1, 7}) {
            for (int far : new int[] {0, 198, 199, 200, 201}) {
                StrawButts x = by("green 3 4;ring 1 9;archer 0 1 1 9", "aim 1 if round=" + (begin + far));
                for (int i = 0; i < begin; i++) {
                    x.round();
                }
                int due = far < 200 ? begin + far : -2;
                Check.due("eased, " + far + " on from " + begin, due, x.eased(0));
                Check.due("allEased, " + far + " on from " + begin, due, x.allEased());
            }
        }
    }

    /** Promise 19: "-2: in the HEDGE; NONE without these"; terms: "(have they any or not)". */
    private static void down() {
        for (int far : FAR) {
            Twin.stay("down of archer " + far, -1, x -> x.down(far, 0));
            Twin.stay("down at ring " + far, -1, x -> x.down(0, far));
        }
        Twin.stay("down of archer 2 of two", -1, x -> x.down(2, 0));
        Twin.stay("down at ring 2 of two", -1, x -> x.down(0, 2));
        Twin.stay("down 0 0", 6, x -> x.down(0, 0));
        Twin.stay("down 0 1, the last PLACE", 9, x -> x.down(0, 1));
        Twin.stay("down 1 1", 5, x -> x.down(1, 1));
        StrawButts x = Check.on("green 9 0;wind 5;wind 3;ring 8 1;ring 0 1;archer 0 1 1 0");
        Check.due("behind the last, without ARROWS", -2, x.down(0, 0));
        Check.due("in it", 1, x.down(0, 1));
        x.breath(1);
        Check.due("in it", 7, x.down(0, 0));
        Check.due("ahead of the first", -2, x.down(0, 1));
    }

    /** Promise 20: "-2 without these". */
    private static void bestAim() {
        for (int what = 0; what < 2; what++) {
            int asked = what;
            for (int far : FAR) {
                Twin.stay("bestAim of archer " + far, -2, x -> x.bestAim(far, asked));
            }
            Twin.stay("bestAim of archer 2 of two", -2, x -> x.bestAim(2, asked));
        }
        for (int far : FAR) {
            Twin.stay("bestAim what " + far, -2, x -> x.bestAim(0, far));
        }
        Twin.stay("bestAim what 2", -2, x -> x.bestAim(0, 2));
        Twin.stay("none hits", -1, x -> x.bestAim(0, 0));
        Twin.stay("none hits", 0, x -> x.bestAim(0, 1));
    }

    private static void bestAimIs(String green, int which, int much) {
        Check.due(green + ": which", which, Check.on(green).bestAim(0, 0));
        Check.due(green + ": how much", much, Check.on(green).bestAim(0, 1));
    }

    /** Terms: "eased most (how much ILL is less), have they ARROWS or not, or none; of several none". */
    private static void bestAimOfSeveral() {
        bestAimIs("green 9 0;ring 1 3;archer 0 1 1 4", 0, 3);
        bestAimIs("green 9 0;ring 1 3;archer 0 1 1 3", 0, 3);
        bestAimIs("green 9 0;ring 1 3;archer 0 1 1 2", 0, 2);
        bestAimIs("green 9 0;ring 1 3;archer 0 1 1 1", 0, 1);
        bestAimIs("green 9 0;ring 1 3;archer 0 1 1 0", -1, 0);
        bestAimIs("green 9 9;wind 5;ring 1 3;ring 2 4;archer 1 1 1 9", 0, 4);
        bestAimIs("green 9 9;wind 5;ring 2 3;ring 0 4;archer 1 1 1 9", -1, 0);
        bestAimIs("green 9 9;wind 3;ring 8 3;ring 2 4;ring 1 5;ring 3 6;archer 1 1 1 9", 3, 4);
    }

    /** Promise 21: "-2: so many there are not", "-3 without these (with ARROWS)". */
    private static void row() {
        for (int far : FAR) {
            Twin.stay("row of archer " + far, -3, x -> x.row(far, 1, 0));
            Twin.stay("row of " + far, -3, x -> x.row(0, far, 0));
            Twin.stay("row what " + far, -3, x -> x.row(0, 1, far));
        }
        Twin.stay("row of archer 2 of two", -3, x -> x.row(2, 1, 0));
        Twin.stay("row of 0", -3, x -> x.row(0, 0, 0));
        Twin.stay("row of 6", -3, x -> x.row(0, 6, 0));
        Twin.stay("row what 6", -3, x -> x.row(0, 5, 6));
        int[] aims = {-1, 0, -1, 0, -1};
        int[] much = {0, 3, 3, 4, 4};
        for (int n = 1; n <= 5; n++) {
            int shots = n;
            Twin.stay("row of " + n, much[n - 1], x -> x.row(0, shots, 0));
            for (int what = 1; what <= 5; what++) {
                int asked = what;
                int due = what > n ? -2 : aims[what - 1];
                Twin.stay("row of " + n + " what " + what, due, x -> x.row(0, shots, asked));
            }
        }
        Twin.stay("ILL 0", 0, x -> x.row(1, 5, 0));
        Twin.stay("ILL 0", -1, x -> x.row(1, 5, 5));
        StrawButts x = Check.on("green 9 1;ring 1 3;archer 0 1 1 9");
        Check.due("one ARROW", 3, x.row(0, 5, 0));
        x.shoot(0, 0);
        Check.due("no ARROWS", -3, x.row(0, 5, 0));
        Check.due("no ARROWS", -3, x.row(0, 5, 1));
        Check.due("QUIVER 0", -3, Check.on("green 9 0;ring 1 3;archer 0 1 1 9").row(0, 1, 0));
    }

    private static void rowIs(String green, int n, int much, int... aims) {
        StrawButts x = Check.on(green);
        Check.due(green + ": how much", much, x.row(0, n, 0));
        for (int i = 0; i < n; i++) {
            Check.due(green + ": SHOT " + i, aims[i], x.row(0, n, i + 1));
        }
    }

    /** Terms: "of several the one of fewest ARROWS, then the first (to let it go by ahead of RING 0)". */
    private static void rowOfSeveral() {
        rowIs("green 9 9;ring 1 3;archer 0 1 1 15", 5, 15, 0, 0, 0, 0, 0);
        rowIs("green 9 9;ring 1 3;archer 0 1 1 16", 5, 15, 0, 0, 0, 0, 0);
        rowIs("green 9 9;ring 1 3;archer 0 1 1 13", 5, 13, 0, 0, 0, 0, 0);
        rowIs("green 9 9;ring 1 3;archer 0 1 1 12", 5, 12, -1, 0, 0, 0, 0);
        rowIs("green 9 9;ring 1 3;archer 0 1 1 4", 5, 4, -1, -1, -1, 0, 0);
        rowIs("green 9 9;ring 1 3;archer 0 1 1 3", 5, 3, -1, -1, -1, -1, 0);
        rowIs("green 9 9;ring 1 3;archer 0 1 1 1", 1, 1, 0);
        rowIs("green 9 9;ring 1 3;archer 0 1 1 0", 5, 0, -1, -1, -1, -1, -1);
        rowIs("green 9 9;ring 1 1;archer 0 1 1 3", 5, 3, -1, -1, 0, 0, 0);
        rowIs("green 9 9;ring 1 9;archer 0 1 1 9", 5, 9, -1, -1, -1, -1, 0);
        rowIs("green 9 9;ring 1 9;archer 0 1 1 10", 5, 10, -1, -1, -1, 0, 0);
        rowIs("green 9 2;ring 1 3;archer 0 1 1 30", 5, 6, -1, -1, -1, 0, 0);
        rowIs("green 9 4;ring 1 3;archer 0 1 1 30", 5, 12, -1, 0, 0, 0, 0);
        rowIs("green 9 9;wind 5;wind 4;wind 3;wind 8;ring 1 3;ring 0 1;ring 2 1;archer 0 1 1 30", 5, 12, 1, 0, 2, -1, 1);
        rowIs("green 9 2;wind 5;wind 4;wind 3;wind 8;ring 1 3;ring 0 1;ring 2 1;archer 0 1 1 30", 5, 6, -1, -1, 2, -1, 1);
    }

    private static int heldFor(int calm, int breath) {
        StringBuilder green = new StringBuilder("green 9 0");
        for (int i = 0; i < 12; i++) {
            green.append(i == calm ? ";wind 4" : ";wind 8");
        }
        StrawButts x = Check.on(green + ";ring 1 1;archer 0 1 1 0");
        if (breath > 0) {
            x.breath(breath);
        }
        return x.hold(0);
    }

    /** Promise 22: "-2: by none; NONE without that ARCHER"; terms: "the least number 0 to 60 of SHOTS". */
    private static void hold() {
        for (int far : FAR) {
            Twin.stay("hold " + far, -1, x -> x.hold(far));
        }
        Twin.stay("hold 2 of two", -1, x -> x.hold(2));
        Twin.stay("hold 0", 1, x -> x.hold(0));
        Twin.stay("hold 1, whose drift is below one", 0, x -> x.hold(1));
        for (int calm = 0; calm < 12; calm++) {
            Check.due("hold for " + calm, calm, heldFor(calm, 0));
        }
        Check.due("by none", -2, heldFor(-1, 0));
        Check.due("it has just gone by", 11, heldFor(0, 1));
        Check.due("it comes round", 0, heldFor(0, 12));
        Check.due("another RING is none", -2, Check.on("green 9 9;wind 5;ring 1 1;ring 2 1;archer 1 1 1 0").hold(0));
        Check.due("a drift below one is none", 0, Check.on("green 9 9;wind 5;ring 1 1;archer 0 2 1 0").hold(0));
        Check.due("a drift above minus one is none", 0, Check.on("green 9 9;wind 3;ring 1 1;archer 0 2 1 0").hold(0));
    }

    /** Promise 23: "-2: by none; NONE without these"; terms: "the least, 1 to 9". */
    private static void leastSkill() {
        for (int far : FAR) {
            Twin.stay("leastSkill of archer " + far, -1, x -> x.leastSkill(far, 1));
            Twin.stay("leastSkill for " + far, -1, x -> x.leastSkill(0, far));
        }
        Twin.stay("leastSkill of archer 2 of two", -1, x -> x.leastSkill(2, 1));
        Twin.stay("leastSkill for 0", -1, x -> x.leastSkill(0, 0));
        Twin.stay("leastSkill for 41", -1, x -> x.leastSkill(0, 41));
        Twin.stay("leastSkill for 1", -2, x -> x.leastSkill(0, 1));
        Twin.stay("leastSkill for 2", 5, x -> x.leastSkill(0, 2));
        Twin.stay("leastSkill for 40", 5, x -> x.leastSkill(0, 40));
        Twin.stay("ILL 0 already", 1, x -> x.leastSkill(1, 1));
        for (int away = 1; away <= 9; away++) {
            StrawButts x = Check.on("green 9 9;wind 5;ring 1 1;archer 0 4 " + away + " 1");
            Check.due("away " + away, away < 9 ? away + 1 : -2, x.leastSkill(0, 1));
        }
        Check.due("the least of all", 1, Check.on("green 9 9;wind 4;ring 1 1;archer 0 9 9 1").leastSkill(0, 1));
        Check.due("no ARROWS", -2, Check.on("green 9 0;wind 4;ring 1 1;archer 0 9 9 1").leastSkill(0, 40));
    }

    /** Terms: "LEAST SKILL .. for n ROUNDS (1 to 40)": all of these are played, and no more. */
    private static void leastSkillOfForty() {
        StrawButts x = by("green 3 4;ring 1 9;archer 0 5 1 9", "aim 1 if round=39");
        Check.due("39", -2, x.leastSkill(0, 39));
        Check.due("40", 1, x.leastSkill(0, 40));
        x.round();
        Check.due("38 behind one", -2, x.leastSkill(0, 38));
        Check.due("39 behind one", 1, x.leastSkill(0, 39));
        StrawButts y = by("green 3 4;ring 1 9;archer 0 5 1 9", "aim 1 if round=40");
        Check.due("40, a ROUND too late", -2, y.leastSkill(0, 40));
    }

    /** Promise 24: "NONE without these". */
    private static void set() {
        for (int what = 0; what < 2; what++) {
            int asked = what;
            for (int far : FAR) {
                Twin.stay("set ring " + far, -1, x -> x.set(far, 1, asked));
                Twin.stay("set for " + far, -1, x -> x.set(0, far, asked));
            }
            Twin.stay("set ring 2 of two", -1, x -> x.set(2, 1, asked));
            Twin.stay("set for 0", -1, x -> x.set(0, 0, asked));
            Twin.stay("set for 41", -1, x -> x.set(0, 41, asked));
        }
        for (int far : FAR) {
            Twin.stay("set what " + far, -1, x -> x.set(0, 1, far));
        }
        Twin.stay("set what 2", -1, x -> x.set(0, 1, 2));
        Twin.stay("set 0 for 1", 2, x -> x.set(0, 1, 0));
        Twin.stay("set 1 for 40", 5, x -> x.set(1, 40, 0));
        Twin.stay("set 1 for 40", 0, x -> x.set(1, 40, 1));
        Check.due("no RING", -1, Check.on("green 3 9").set(0, 1, 0));
    }

    private static void setIs(String green, int which, int much) {
        StrawButts x = by(green, "aim 1 if ring=0");
        Check.due(green + ": which", which, x.set(0, 1, 0));
        Check.due(green + ": how much", much, x.set(0, 1, 1));
        Check.due(green + ": the RING stays", x.ring(0, 0), Check.on(green).ring(0, 0));
    }

    /** Terms: "of no other RING; where it is, too", "of several where it is, then the least". All aim at RING 0. */
    private static void setAtTheEdges() {
        setIs("green 9 9;wind 5;ring 4 1;ring 1 2;archer 1 1 1 9", 0, 2);
        setIs("green 9 9;wind 5;ring 4 1;ring 0 2;archer 1 1 1 9", 4, 0);
        setIs("green 9 9;wind 3;ring 4 1;ring 7 2;archer 1 1 1 9", 8, 2);
        setIs("green 9 9;wind 3;ring 4 1;ring 8 2;archer 1 1 1 9", 4, 0);
        setIs("green 20 9;wind 3;ring 4 1;ring 18 2;archer 1 1 1 9", 19, 2);
        setIs("green 9 9;wind 3;ring 4 1;ring 7 2;ring 8 1;archer 1 1 1 9", 4, 0);
        setIs("green 9 9;wind 5;wind 3;ring 8 1;ring 4 2;archer 1 1 1 9;archer 1 1 1 9", 3, 2);
        setIs("green 9 9;wind 5;wind 3;ring 5 1;ring 4 2;archer 1 1 1 9;archer 1 1 1 9", 5, 2);
        setIs("green 9 9;wind 5;wind 3;ring 8 1;ring 4 2;ring 3 1;archer 1 1 1 9;archer 1 1 1 9", 5, 2);
        setIs("green 9 9;wind 5;wind 3;ring 3 1;ring 4 2;archer 1 1 1 1;archer 1 1 1 9", 5, 2);
        setIs("green 9 9;wind 5;wind 3;ring 3 1;ring 4 2;archer 1 1 1 2;archer 1 1 1 9", 3, 2);
        setIs("green 9 9;ring 4 5;archer 0 1 1 9;archer 0 1 1 3", 4, 8);
    }

    /** Terms: "SET of a RING for n ROUNDS (1 to 40)": all of these are played, and no more. */
    private static void setOfForty() {
        String green = "green 9 9;wind 5;ring 4 1;ring 2 2;archer 1 1 1 9";
        StrawButts x = by(green, "aim 1 if ring=0 and round=39");
        Check.due("39", 4, x.set(0, 39, 0));
        Check.due("39", 0, x.set(0, 39, 1));
        Check.due("40", 1, x.set(0, 40, 0));
        Check.due("40", 2, x.set(0, 40, 1));
        Check.due("40, a ROUND too late", 0, by(green, "aim 1 if ring=0 and round=40").set(0, 40, 1));
    }

    /** Promise 25: "NONE: nobody", "-2 without these, or a GREEN". */
    private static void given() {
        for (int what = 0; what < 2; what++) {
            int asked = what;
            for (int far : FAR) {
                Twin.stay("given for " + far, -2, x -> x.given(far, asked));
            }
            Twin.stay("given for 0", -2, x -> x.given(0, asked));
            Twin.stay("given for 41", -2, x -> x.given(41, asked));
            Twin.stay("given for 1: nobody, 0", what == 0 ? -1 : 0, x -> x.given(1, asked));
            Twin.stay("given for 40: nobody, 0", what == 0 ? -1 : 0, x -> x.given(40, asked));
        }
        for (int far : FAR) {
            Twin.stay("given what " + far, -2, x -> x.given(1, far));
        }
        Twin.stay("given what 2", -2, x -> x.given(1, 2));
        // the others have none then: two ARROWS ease one as much as one ARROW each eases two
        StrawButts even = Check.on("green 9 1;ring 4 3;archer 0 1 1 9;archer 0 1 1 9");
        Check.due("of several nobody", -1, even.given(2, 0));
        Check.due("of several nobody", 6, even.given(2, 1));
        StrawButts alike = Check.on("green 9 1;ring 4 3;archer 0 1 1 9;archer 0 1 1 9;archer 0 1 1 2");
        Check.due("then the least", 0, alike.given(3, 0));
        Check.due("then the least", 9, alike.given(3, 1));
        Check.due("for 2 nobody", -1, alike.given(2, 0));
        Check.due("for 2 nobody", 8, alike.given(2, 1));
        StrawButts last = Check.on("green 9 1;ring 4 3;archer 0 1 1 0;archer 0 1 1 0;archer 0 1 1 9");
        Check.due("the last", 2, last.given(3, 0));
        Check.due("the last", 9, last.given(3, 1));
        Check.due("one ROUND: nobody", -1, last.given(1, 0));
        Check.due("without ARCHERS", -1, Check.on("green 9 1;ring 4 3").given(40, 0));
        Check.due("without ARROWS", -1, Check.on("green 9 0;ring 4 3;archer 0 1 1 9").given(40, 0));
        for (int who = 0; who < 5; who++) {
            String ill = ";archer 0 1 1 0".repeat(who) + ";archer 0 1 1 9" + ";archer 0 1 1 0".repeat(4 - who);
            Check.due("of five on a short green, " + who, who, Check.on("green 3 1;ring 1 3" + ill).given(3, 0));
        }
        StrawButts lone = by("green 9 1;wind 5;wind 4;ring 4 3;archer 0 1 1 0;archer 0 1 1 3",
            "aim 1 if archer=1 and round=3");
        lone.shoot(1, 0);
        Check.due("one ARROW is lost, archer 1 has none", 3, lone.archer(1, 3));
        Check.due("for 3 nobody", -1, lone.given(3, 0));
        Check.due("for 4 archer 1", 1, lone.given(4, 0));
        Check.due("for 4 archer 1", 3, lone.given(4, 1));
        Check.due("to the only one: nobody", -1, Check.on("green 9 5;ring 4 3;archer 0 1 1 9").given(40, 0));
    }

    /** Terms: "(99 at most; the others have none then)". */
    private static void givenOfNinetyNine() {
        StrawButts x = by("green 9 20;ring 4 1" + FIVE, "aim 1 if arrows>=99");
        Check.due("99 of 100", 4, x.given(1, 0));
        Check.due("99 of 100", 1, x.given(1, 1));
        StrawButts y = by("green 9 20;ring 4 1" + FIVE, "aim 1 if arrows>99");
        Check.due("never 100", -1, y.given(1, 0));
        Check.due("never 100", 0, y.given(1, 1));
        x.shoot(0, 0);
        Check.due("99 of 99", 4, x.given(1, 0));
        x.shoot(0, 0);
        Check.due("98 of 98", -1, x.given(1, 0));
        Check.rule(x, "aim 1 if arrows=98");
        x.force(1);
        Check.due("98 of 98", 4, x.given(1, 0));
    }

    /** Terms: "GIVEN for n ROUNDS (1 to 40)": all of these are played, and no more. */
    private static void givenOfForty() {
        String green = "green 9 3;ring 4 9;archer 0 1 1 0;archer 0 1 1 9";
        StrawButts x = by(green, "aim 1 if round=39 and arrows>3");
        Check.due("39", -1, x.given(39, 0));
        Check.due("40", 1, x.given(40, 0));
        Check.due("40", 9, x.given(40, 1));
        Check.due("40, a ROUND too late", -1, by(green, "aim 1 if round=40 and arrows>3").given(40, 0));
    }

    /** Promise 28: "NONE without these (unlike)". */
    private static void rests() {
        for (int what = 0; what < 3; what++) {
            int asked = what;
            for (int far : FAR) {
                Twin.stay("rests of " + far, -1, x -> x.rests(far, 1, 1, asked));
                Twin.stay("rests of 0 and " + far, -1, x -> x.rests(0, far, 1, asked));
                Twin.stay("rests for " + far, -1, x -> x.rests(0, 1, far, asked));
            }
            Twin.stay("rests of 2", -1, x -> x.rests(2, 1, 1, asked));
            Twin.stay("rests of 0 and 2", -1, x -> x.rests(0, 2, 1, asked));
            Twin.stay("rests of 0 and 0", -1, x -> x.rests(0, 0, 1, asked));
            Twin.stay("rests of 1 and 1", -1, x -> x.rests(1, 1, 1, asked));
            Twin.stay("rests for 0", -1, x -> x.rests(0, 1, 0, asked));
            Twin.stay("rests for 21", -1, x -> x.rests(0, 1, 21, asked));
            Twin.stay("rests for 1", what == 0 ? 4 : 0, x -> x.rests(0, 1, 1, asked));
            Twin.stay("rests for 20", what == 0 ? 4 : 0, x -> x.rests(1, 0, 20, asked));
        }
        for (int far : FAR) {
            Twin.stay("rests what " + far, -1, x -> x.rests(0, 1, 1, far));
        }
        Twin.stay("rests what 3", -1, x -> x.rests(0, 1, 1, 3));
        StrawButts six = Check.on("green 9 0;ring 0 1;ring 1 1;ring 2 1;ring 3 1;ring 4 1;ring 5 1" + FIVE);
        Check.due("without ARROWS all of 6 by 6", 36, six.rests(0, 4, 20, 0));
        Check.due("the first", 0, six.rests(4, 0, 20, 1));
        StrawButts last = Check.on("green 9 1;ring 0 1;ring 1 1;ring 2 1;ring 3 1;ring 4 1;ring 5 1"
            + ";archer 5 1 1 9;archer 4 1 1 9");
        Check.due("one rest", 1, last.rests(0, 1, 1, 0));
        Check.due("the first one's RING", 5, last.rests(0, 1, 1, 1));
        Check.due("the second one's RING", 4, last.rests(0, 1, 1, 2));
        StrawButts one = Check.on("green 9 1;ring 0 1" + FIVE);
        Check.due("one RING, one rest", 1, one.rests(3, 4, 1, 0));
        Check.due("one RING", 0, one.rests(3, 4, 1, 1));
        Check.due("one RING", 0, one.rests(3, 4, 1, 2));
    }

    /**
     * Terms: "twos of which neither would have more by another RING". Archers 2 and 1 have 2 and 0 by
     * RINGS 0 and 0, 0 and 2 by 1 and 1, nothing by unlike ones, as archer 0 moves the wind or not.
     */
    private static void restsByOneAnother() {
        StrawButts x = by("green 9 3;wind 3;wind 5;ring 8 2;ring 6 2;archer 0 1 2 9;archer 0 1 2 9;archer 1 1 2 9",
            "aim stuck");
        for (int what = 0; what < 3; what++) {
            Check.due("2 and 1, what " + what, what == 0 ? 3 : 0, x.rests(2, 1, 2, what));
            Check.due("1 and 2, what " + what, what == 0 ? 3 : 0, x.rests(1, 2, 2, what));
        }
        StrawButts y = by("green 9 3;wind 5;wind 4;ring 2 1;ring 0 1;archer 1 1 1 9;archer 0 1 2 9;archer 0 1 2 9",
            "aim 1 if stuck=1");
        int[] due = {2, 0, 1};
        for (int what = 0; what < 3; what++) {
            Check.due("unlike RINGS, what " + what, due[what], y.rests(2, 1, 2, what));
        }
    }

    /** Terms: "each has how much less their ILL is then than now": who is ILL 0 has as much by any RING. */
    private static void restsOfTheWell() {
        // RING 1 sticks in RING 2, the others go into the HEDGE, and what sticks makes others shoot
        StrawButts x = by("green 9 8;wind 8;ring 8 1;ring 1 1;ring 5 1" + ";archer 0 1 1 0".repeat(4)
            + ";archer 2 1 1 0", "aim 1 if stuck>0 and ring=2");
        for (int one = 0; one < 5; one++) {
            for (int other = 0; other < 5; other++) {
                Check.due("rests of " + one + " and " + other, one == other ? -1 : 9, x.rests(one, other, 8, 0));
            }
        }
        StrawButts y = by("green 9 1;ring 1 1;ring 2 9;archer 0 1 1 0;archer 0 1 1 0;archer 0 1 1 0;archer 0 1 1 0"
            + ";archer 1 1 1 9", "aim 1 if archer=4 and ring=1 and stuck>0");
        Check.due("another's ILL is nothing to them", 4, y.rests(1, 0, 1, 0));
    }

    /** Promise 28: "(-2: there is none)". What 0 and 2 shoot by the rule moves the wind of 1 and 3. */
    private static void restsOfNone() {
        StrawButts x = by("green 9 3;wind 5;wind 3;wind 4;wind 4;ring 7 1;ring 8 2"
            + ";archer 0 1 2 9;archer 1 1 1 9;archer 0 1 2 9;archer 1 1 1 9", "aim 1 if stuck=1");
        Check.due("none", 0, x.rests(3, 1, 3, 0));
        Check.due("none", -2, x.rests(3, 1, 3, 1));
        Check.due("none", -2, x.rests(3, 1, 3, 2));
        Check.due("none", 0, x.rests(1, 3, 3, 0));
        Check.due("none", -2, x.rests(1, 3, 3, 1));
        Check.due("for 2 there is one", 1, x.rests(3, 1, 2, 0));
    }

    /**
     * Terms: "RESTS of two ARCHERS for n ROUNDS (1 to 20)": all of these are played, and no more. Archer
     * 1 is always in the gale, archer 2 in still air, until archer 0 shoots ahead of them.
     */
    private static void restsOfTwenty() {
        String green = "green 9 20;wind 8;wind 4;ring 1 1;ring 2 1;archer 0 1 9 0;archer 0 1 9 30;archer 1 1 9 30";
        StrawButts x = by(green, "aim 1 if round=19");
        Check.due("19: any RING of archer 1", 2, x.rests(1, 2, 19, 0));
        Check.due("20: but one", 1, x.rests(1, 2, 20, 0));
        Check.due("20: their OWN", 0, x.rests(1, 2, 20, 1));
        Check.due("20: and the other's", 1, x.rests(1, 2, 20, 2));
        Check.due("20, a ROUND too late", 2, by(green, "aim 1 if round=20").rests(1, 2, 20, 0));
    }

    /** Promise 29: "NONE without these"; terms: "PENCE (0 to 9999)", "(nothing, if there are none)". */
    private static void pence() {
        for (int much : new int[] {Integer.MIN_VALUE, -2, -1, 10000, 10001, Integer.MAX_VALUE}) {
            Twin.stay("pence " + much, -1, x -> x.pence(much, 0));
            Twin.stay("pence " + much, -1, x -> x.pence(much, 1));
        }
        for (int far : FAR) {
            Twin.stay("pence of ring " + far, -1, x -> x.pence(1, far));
        }
        Twin.stay("pence of ring 2 of two", -1, x -> x.pence(1, 2));
        Twin.stay("pence 0", 0, x -> x.pence(0, 0));
        Twin.stay("pence 0", 0, x -> x.pence(0, 1));
        Twin.stay("pence 9999, a fourth", 2500, x -> x.pence(9999, 0));
        Twin.stay("pence 9999, three fourths", 7499, x -> x.pence(9999, 1));
        StrawButts none = Check.on("green 3 1;ring 0 1;ring 1 1");
        for (int much : new int[] {0, 1, 9999}) {
            Check.due("nothing sticks", 0, none.pence(much, 0));
            Check.due("nothing sticks", 0, none.pence(much, 1));
        }
        Check.due("nothing sticks, too much", -1, none.pence(10000, 0));
        StrawButts all = Check.on("green 3 1;ring 0 1;ring 1 1;archer 1 1 1 1");
        all.round();
        Check.due("all to one", 9999, all.pence(9999, 1));
        Check.due("none to the other", 0, all.pence(9999, 0));
    }

    private static void penceAre(int much, int[] stuck, int... due) {
        StringBuilder green = new StringBuilder("green 20 20");
        for (int i = 0; i < stuck.length; i++) {
            green.append(";ring ").append(i).append(" 1");
        }
        StrawButts x = Check.on(green + FIVE);
        int sum = 0;
        for (int ring = 0, shots = 0; ring < stuck.length; ring++) {
            for (int i = 0; i < stuck[ring]; i++, shots++) {
                Check.due("sticks", ring, x.shoot(shots % 5, ring));
            }
        }
        for (int ring = 0; ring < stuck.length; ring++) {
            Check.due(much + " pence, ring " + ring + " of " + stuck.length, due[ring], x.pence(much, ring));
            sum += x.pence(much, ring);
        }
        Check.due("all pence", much, sum);
    }

    /** Terms: "what is left, one each, to those whose part lost most by that, of several the least first". */
    private static void penceLeft() {
        penceAre(1, new int[] {1, 1, 1, 1, 1, 1}, 1, 0, 0, 0, 0, 0);
        penceAre(5, new int[] {1, 1, 1, 1, 1, 1}, 1, 1, 1, 1, 1, 0);
        penceAre(6, new int[] {1, 1, 1, 1, 1, 1}, 1, 1, 1, 1, 1, 1);
        penceAre(11, new int[] {1, 1, 1, 1, 1, 1}, 2, 2, 2, 2, 2, 1);
        StrawButts six = Check.on("green 9 9;ring 0 1;ring 1 1;ring 2 1;ring 3 1;ring 4 1;ring 5 1;archer 5 1 1 9");
        six.shoot(0, 0);
        six.shoot(0, 5);
        Check.due("two of six", 51, six.pence(101, 0));
        Check.due("two of six", 50, six.pence(101, 5));
        Check.due("two of six", 0, six.pence(101, 4));
        penceAre(1, new int[] {0, 1, 2}, 0, 0, 1);
        penceAre(2, new int[] {0, 1, 2}, 0, 1, 1);
        penceAre(9999, new int[] {0, 0, 0, 0, 0, 7}, 0, 0, 0, 0, 0, 9999);
        // 9999 by 7: 1428 3/7, 2856 6/7, 5713 5/7: two are left
        penceAre(9999, new int[] {1, 2, 4}, 1428, 2857, 5714);
        // 10 by 6: 5, 3 1/3, 1 2/3: one is left
        penceAre(10, new int[] {3, 2, 1}, 5, 3, 2);
        // 3 by 4: 3/4, 1 1/2, 3/4: two are left, for the first and the third
        penceAre(3, new int[] {1, 2, 1}, 1, 1, 1);
        // 1 by 4: 1/4, 1/2, 1/4
        penceAre(1, new int[] {1, 2, 1}, 0, 1, 0);
    }
}
