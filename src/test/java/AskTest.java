/** Promises 16 to 25, 28 and 29: how it goes on, by the rule in force, and what had best be done. */
public final class AskTest {
    private static final String GREEN = "green 10 4;wind 4;wind 6;ring 2 3;ring 5 2;archer 0 1 2 7;archer 1 2 3 4";

    public static void main(String[] args) {
        withoutGreen();
        ahead();
        eased();
        down();
        bestAim();
        row();
        hold();
        leastSkill();
        set();
        given();
        rests();
        pence();
        nothingChanges();
        Check.finish();
    }

    private static void withoutGreen() {
        StrawButts x = new StrawButts();
        Check.due("ahead", -1, x.ahead(0, 1, 2));
        Check.due("eased", -1, x.eased(0));
        Check.due("allEased", -1, x.allEased());
        Check.due("down", -1, x.down(0, 0));
        Check.due("bestAim", -2, x.bestAim(0, 0));
        Check.due("row", -3, x.row(0, 1, 0));
        Check.due("hold", -1, x.hold(0));
        Check.due("leastSkill", -1, x.leastSkill(0, 1));
        Check.due("set", -1, x.set(0, 1, 0));
        Check.due("given", -2, x.given(1, 0));
        Check.due("rests", -1, x.rests(0, 1, 1, 0));
        Check.due("pence", -1, x.pence(1, 0));
    }

    private static void ahead() {
        StrawButts x = Check.on(GREEN);
        int[] ill = {7, 4, 1, 0, 0, 0};
        for (int n = 0; n < 6; n++) {
            Check.due("ahead " + n, ill[n], x.ahead(0, n, 0));
            Check.due("arrows ahead " + n, Math.max(0, 4 - n), x.ahead(1, n, 1));
        }
        Check.due("ahead 100", 0, x.ahead(0, 100, 0));
        Check.due("ahead 101", -1, x.ahead(0, 101, 0));
        Check.due("ahead -1", -1, x.ahead(0, -1, 0));
        Check.due("archer 2", -1, x.ahead(2, 1, 0));
        Check.due("archer 2", -1, x.ahead(2, 1, 1));
        Check.due("what 3", -1, x.ahead(0, 1, 3));
        Check.due("what -1", -1, x.ahead(0, 1, -1));
        StrawButts hedged = Check.on("green 3 4;wind 8;ring 1 1;archer 0 1 1 9");
        hedged.shoot(0, 0);
        Check.due("in the hedge", 1, hedged.ahead(0, 0, 2));
        Check.due("in the hedge", 3, hedged.ahead(0, 2, 2));
        Check.due("of no archer", 4, hedged.ahead(-77, 100, 2));
        Check.due("rounds too many", -1, hedged.ahead(0, 101, 2));
        // aims only in one round that is far away
        StrawButts late = Check.on("green 3 4;ring 1 9;archer 0 1 1 9");
        Check.rule(late, "aim 1 if round=99");
        late.force(0);
        Check.due("not yet", 9, late.ahead(0, 99, 0));
        Check.due("now", 0, late.ahead(0, 100, 0));
        Check.due("eased then", 99, late.eased(0));
    }

    private static void eased() {
        StrawButts x = Check.on(GREEN);
        Check.due("eased(0)", 2, x.eased(0));
        Check.due("eased(1)", -2, x.eased(1));
        Check.due("allEased", -2, x.allEased());
        Check.due("eased(2)", -1, x.eased(2));
        Check.due("eased(-1)", -1, x.eased(-1));
        x.round();
        Check.due("eased(0) in round 1", 2, x.eased(0));
        x.round();
        x.round();
        Check.due("eased(0) in round 3, ill no more", 3, x.eased(0));
        StrawButts both = Check.on("green 10 9;ring 2 3;ring 5 2;archer 0 1 2 7;archer 1 2 3 8;archer 1 1 1 0");
        Check.due("eased(0)", 2, both.eased(0));
        Check.due("eased(1)", 3, both.eased(1));
        Check.due("eased(2)", 0, both.eased(2));
        Check.due("allEased", 3, both.allEased());
        both.round();
        Check.due("allEased in round 1", 3, both.allEased());
        Check.due("of no archers", 0, Check.on("green 3 0").allEased());
        StrawButts late = Check.on("green 3 4;ring 1 9;archer 0 1 1 9");
        Check.rule(late, "aim 1 if round=199");
        Check.rule(late, "aim 1 if round=200");
        late.force(0);
        Check.due("200th round", 199, late.eased(0));
        Check.due("200th round", 199, late.allEased());
        late.force(1);
        Check.due("201st round", -2, late.eased(0));
        Check.due("201st round", -2, late.allEased());
        late.round();
        Check.due("200th from round 1 on", 200, late.eased(0));
    }

    private static void down() {
        StrawButts x = Check.on(GREEN);
        Check.due("down(0, 1)", 5, x.down(0, 1));
        x.breath(1);
        Check.due("down(0, 1)", 9, x.down(0, 1));
        Check.due("down(1, 1)", 8, x.down(1, 1));
        Check.due("down(2, 1)", -1, x.down(2, 1));
        Check.due("down(0, 2)", -1, x.down(0, 2));
        Check.due("down(-1, 0)", -1, x.down(-1, 0));
        Check.due("down(0, -1)", -1, x.down(0, -1));
        StrawButts hedge = Check.on("green 3 0;wind 5;ring 0 1;ring 1 1;archer 0 1 2 0");
        Check.due("without arrows", 2, hedge.down(0, 0));
        Check.due("hedge", -2, hedge.down(0, 1));
    }

    private static void bestAim() {
        StrawButts x = Check.on(GREEN);
        Check.due("their own", 1, x.bestAim(1, 0));
        Check.due("how much", 2, x.bestAim(1, 1));
        x.breath(1);
        Check.due("another, by the wind", 0, x.bestAim(1, 0));
        Check.due("how much", 2, x.bestAim(1, 1));
        Check.due("none", -1, x.bestAim(0, 0));
        Check.due("none", 0, x.bestAim(0, 1));
        Check.due("what 2", -2, x.bestAim(0, 2));
        Check.due("what -1", -2, x.bestAim(0, -1));
        Check.due("archer 2", -2, x.bestAim(2, 0));
        Check.due("archer -1", -2, x.bestAim(-1, 1));
        StrawButts well = Check.on("green 3 0;ring 0 5;ring 1 7;archer 0 1 2 0;archer 1 1 2 3");
        Check.due("ill 0", -1, well.bestAim(0, 0));
        Check.due("ill 0", 0, well.bestAim(0, 1));
        Check.due("ill 3, without arrows", 1, well.bestAim(1, 0));
        Check.due("ill 3, without arrows", 3, well.bestAim(1, 1));
    }

    private static void rowIs(StrawButts x, int archer, int n, int much, int... aims) {
        Check.due("row of " + n, much, x.row(archer, n, 0));
        for (int i = 1; i <= 5; i++) {
            Check.due("row of " + n + ", " + i, i <= n ? aims[i - 1] : -2, x.row(archer, n, i));
        }
    }

    private static void row() {
        StrawButts x = Check.on(GREEN);
        rowIs(x, 1, 1, 2, 1);
        rowIs(x, 1, 2, 4, 1, 0);
        rowIs(x, 1, 3, 4, -1, 0, 1);
        rowIs(x, 1, 5, 4, -1, -1, -1, 0, 1);
        rowIs(x, 0, 5, 7, 0, -1, 0, -1, 0);
        rowIs(x, 0, 4, 6, 0, -1, 0, -1);
        x.shoot(0, 1);
        x.shoot(0, 1);
        x.shoot(0, 1);
        rowIs(x, 0, 5, 3, -1, -1, -1, 0, -1);
        x.shoot(0, 1);
        Check.due("without arrows", -3, x.row(0, 1, 0));
        Check.due("n 0", -3, x.row(1, 0, 0));
        Check.due("n 6", -3, x.row(1, 6, 0));
        Check.due("what 6", -3, x.row(1, 5, 6));
        Check.due("what -1", -3, x.row(1, 5, -1));
        Check.due("archer 2", -3, x.row(2, 1, 0));
        Check.due("archer -1", -3, x.row(-1, 1, 0));
        rowIs(Check.on("green 3 1;ring 0 1;archer 0 1 1 0"), 0, 3, 0, -1, -1, -1);
    }

    private static void hold() {
        StrawButts x = Check.on(GREEN);
        Check.due("now", 0, x.hold(0));
        x.breath(1);
        Check.due("one goes by", 1, x.hold(0));
        x.teach(0, 5);
        Check.due("skill 5: drift 0", 0, x.hold(0));
        Check.due("archer 2", -1, x.hold(2));
        Check.due("archer -1", -1, x.hold(-1));
        Check.due("never", -2, Check.on("green 9 0;wind 8;ring 0 1;ring 4 1;archer 1 1 1 0").hold(0));
        String round = "green 9 0;wind 8;wind 8;wind 8;wind 8;wind 8;wind 8;wind 8;wind 8;wind 8;wind 8;wind 8;wind 4"
            + ";ring 0 1;archer 0 1 1 0";
        Check.due("eleven", 11, Check.on(round).hold(0));
    }

    private static void leastSkill() {
        StrawButts x = Check.on(GREEN);
        Check.due("archer 1, 40", 7, x.leastSkill(1, 40));
        Check.due("archer 1, 2", 7, x.leastSkill(1, 2));
        Check.due("archer 1, 1", -2, x.leastSkill(1, 1));
        Check.due("archer 0, 3", 1, x.leastSkill(0, 3));
        Check.due("archer 0, 2", -2, x.leastSkill(0, 2));
        Check.due("n 0", -1, x.leastSkill(0, 0));
        Check.due("n 41", -1, x.leastSkill(0, 41));
        Check.due("archer 2", -1, x.leastSkill(2, 1));
        Check.due("archer -1", -1, x.leastSkill(-1, 1));
    }

    private static void set() {
        StrawButts x = Check.on(GREEN);
        Check.due("where it is", 5, x.set(1, 4, 0));
        Check.due("how much", 7, x.set(1, 4, 1));
        StrawButts moved = Check.on("green 10 4;wind 4;wind 6;ring 2 3;ring 6 2;archer 0 1 2 7;archer 1 2 3 4");
        Check.rule(moved, "aim 1");
        moved.force(0);
        Check.due("elsewhere", 5, moved.set(1, 4, 0));
        Check.due("how much", 11, moved.set(1, 4, 1));
        Check.due("one round", 5, moved.set(1, 1, 1));
        Check.due("the other ring", 3, moved.set(0, 4, 0));
        // ring 0 alone is aimed at, and arrows drift by 2 and -2: from 0 and from 4 they come down in 2
        String two = "green 9 4;wind 5;wind 3;ring 8 3;ring 2 2;archer 1 1 2 4";
        StrawButts both = Check.on(two);
        Check.rule(both, "aim 1 if ring=0");
        both.force(0);
        Check.due("of several the least", 0, both.set(0, 4, 0));
        Check.due("how much", 4, both.set(0, 4, 1));
        Check.due("of several where it is", 2, both.set(1, 1, 0));
        Check.green(both, two + ";ring 0 1");
        Check.due("of no other ring", 4, both.set(0, 4, 0));
        Check.green(both, two + ";ring 0 1;ring 4 1");
        Check.due("where it is, if none does", 8, both.set(0, 4, 0));
        Check.due("how much", 0, both.set(0, 4, 1));
        Check.green(both, "green 3 4;wind 3;ring 0 3;ring 2 2;archer 1 1 1 4");
        Check.due("not out of the green", 0, both.set(0, 4, 0));
        Check.due("how much", 0, both.set(0, 4, 1));
        Check.due("n 0", -1, x.set(0, 0, 0));
        Check.due("n 41", -1, x.set(0, 41, 0));
        Check.due("what 2", -1, x.set(0, 1, 2));
        Check.due("what -1", -1, x.set(0, 1, -1));
        Check.due("ring 2", -1, x.set(2, 1, 0));
        Check.due("ring -1", -1, x.set(-1, 1, 0));
        Check.due("of no archers", 1, Check.on("green 3 1;ring 1 1").set(0, 1, 0));
    }

    private static void given() {
        StrawButts x = Check.on(GREEN);
        Check.due("nobody", -1, x.given(4, 0));
        Check.due("how much", 7, x.given(4, 1));
        Check.due("of several nobody", -1, x.given(1, 0));
        Check.due("how much", 3, x.given(1, 1));
        x.breath(1);
        Check.due("archer 0", 0, x.given(4, 0));
        Check.due("how much", 6, x.given(4, 1));
        Check.due("n 0", -2, x.given(0, 0));
        Check.due("n 41", -2, x.given(41, 0));
        Check.due("what 2", -2, x.given(1, 2));
        Check.due("what -1", -2, x.given(1, -1));
        Check.due("of no archers", -1, Check.on("green 3 1").given(1, 0));
        Check.due("of no archers", 0, Check.on("green 3 1").given(1, 1));
    }

    private static void restsAre(StrawButts x, int one, int other, int n, int... due) {
        for (int what = 0; what < 3; what++) {
            String call = "rests " + one + " " + other + " " + n + " " + what;
            Check.due(call, due[what], x.rests(one, other, n, what));
        }
    }

    private static void rests() {
        StrawButts x = Check.on(GREEN);
        restsAre(x, 0, 1, 1, 1, 0, 0);
        restsAre(x, 1, 0, 1, 1, 0, 0);
        x.breath(1);
        restsAre(x, 0, 1, 1, 2, 0, 1);
        restsAre(x, 1, 0, 1, 2, 1, 0);
        restsAre(x, 0, 0, 1, -1, -1, -1);
        restsAre(x, 0, 2, 1, -1, -1, -1);
        restsAre(x, -1, 0, 1, -1, -1, -1);
        restsAre(x, 0, 1, 0, -1, -1, -1);
        restsAre(x, 0, 1, 21, -1, -1, -1);
        Check.due("what 3", -1, x.rests(0, 1, 1, 3));
        Check.due("what -1", -1, x.rests(0, 1, 1, -1));
        restsByAnother();
        // whatever the rule says
        Check.rule(x, "aim 0");
        x.force(0);
        restsAre(x, 0, 1, 1, 2, 0, 1);
    }

    /** Archer 1 shoots only if an arrow sticks in a certain ring, and so moves archer 2 into the wind. */
    private static void restsByAnother() {
        StrawButts x = Check.on("green 9 4;wind 4;wind 4;wind 6;ring 1 1;ring 3 1;ring 8 1"
            + ";archer 2 1 1 0;archer 2 1 1 0;archer 1 1 1 9");
        Check.rule(x, "aim 1 if archer=1 and ring=0 and stuck>0");
        Check.rule(x, "aim 1 if archer=1 and ring=2 and stuck>0");
        x.force(0);
        restsAre(x, 0, 2, 1, 3, 0, 0);
        restsAre(x, 2, 0, 1, 3, 0, 0);
        x.force(1);
        restsAre(x, 0, 2, 1, 3, 0, 1);
        restsAre(x, 2, 0, 1, 3, 0, 2);
    }

    private static void pence() {
        StrawButts x = Check.on("green 9 9;ring 0 1;ring 1 1;ring 2 1;archer 0 1 1 9");
        Check.due("nothing sticks", 0, x.pence(9999, 0));
        x.shoot(0, 0);
        x.shoot(0, 1);
        x.shoot(0, 2);
        int[] alike = {34, 33, 33};
        int[] two = {1, 1, 0};
        for (int ring = 0; ring < 3; ring++) {
            Check.due("alike", alike[ring], x.pence(100, ring));
            Check.due("of two", two[ring], x.pence(2, ring));
            Check.due("of none", 0, x.pence(0, ring));
            Check.due("of 9999", 3333, x.pence(9999, ring));
        }
        x.shoot(0, 0);
        x.shoot(0, 0);
        x.shoot(0, 1);
        int[] ten = {5, 3, 2};
        for (int ring = 0; ring < 3; ring++) {
            Check.due("3, 2 and 1 of 6", ten[ring], x.pence(10, ring));
        }
        Check.due("much -1", -1, x.pence(-1, 0));
        Check.due("much 10000", -1, x.pence(10000, 0));
        Check.due("ring 3", -1, x.pence(1, 3));
        Check.due("ring -1", -1, x.pence(1, -1));
    }

    private static void nothingChanges() {
        StrawButts x = Check.on(GREEN);
        int[] was = new int[16];
        x.round();
        for (int what = 0; what < 16; what++) {
            was[what] = x.count(what);
        }
        x.ahead(0, 50, 0);
        x.eased(0);
        x.allEased();
        x.row(1, 5, 0);
        x.leastSkill(1, 40);
        x.set(1, 40, 0);
        x.given(40, 0);
        x.rests(0, 1, 20, 0);
        x.skilled(0);
        x.ails(0);
        x.ruled(0);
        x.look(40, 0);
        x.gusts(10, 40, 50, 0);
        for (int what = 0; what < 16; what++) {
            Check.due("count(" + what + ") stays", was[what], x.count(what));
        }
        Check.due("skill stays", 2, x.archer(1, 1));
        Check.due("place stays", 5, x.ring(1, 0));
        Check.due("own stays", 0, x.archer(0, 0));
    }
}
