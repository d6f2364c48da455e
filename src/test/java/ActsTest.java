/** Promises 7 to 15 and 35: what is there, acts, and acts undone. */
public final class ActsTest {
    private static final String GREEN = "green 10 4;wind 4;wind 6;ring 2 3;ring 5 2;archer 0 1 2 7;archer 1 2 3 4";

    public static void main(String[] args) {
        looks();
        rounds();
        roundsByRules();
        words();
        sums();
        tests();
        shots();
        hedges();
        pulls();
        breaths();
        lessons();
        undone();
        counted();
        Check.finish();
    }

    private static void looks() {
        StrawButts x = Check.on(GREEN);
        int[][] rings = {{2, 3, 0}, {5, 2, 0}};
        int[][] archers = {{0, 1, 2, 7, 4}, {1, 2, 3, 4, 4}};
        for (int i = 0; i < 2; i++) {
            for (int what = 0; what < 3; what++) {
                Check.due("ring " + i + " " + what, rings[i][what], x.ring(i, what));
            }
            for (int what = 0; what < 5; what++) {
                Check.due("archer " + i + " " + what, archers[i][what], x.archer(i, what));
            }
            Check.due("ring what -1", -1, x.ring(i, -1));
            Check.due("ring what 3", -1, x.ring(i, 3));
            Check.due("archer what -1", -1, x.archer(i, -1));
            Check.due("archer what 5", -1, x.archer(i, 5));
        }
        for (int i : new int[] {-1, 2, Integer.MAX_VALUE, Integer.MIN_VALUE}) {
            Check.due("ring " + i, -1, x.ring(i, 0));
            Check.due("archer " + i, -1, x.archer(i, 0));
            Check.due("wind " + i, -1, x.wind(i));
        }
        Check.due("wind 0", 4, x.wind(0));
        Check.due("wind 1", 6, x.wind(1));
    }

    private static void rounds() {
        StrawButts x = Check.on(GREEN);
        int[] ill = {4, 1, 0, 0, 0};
        int[] hits = {1, 1, 1, 1, 0};
        for (int i = 0; i < 5; i++) {
            Check.due("round " + i, hits[i], x.round());
            Check.due("ill behind it", ill[i], x.archer(0, 3));
            Check.due("arrows behind it", Math.max(0, 3 - i), x.archer(1, 4));
        }
        Check.due("the other one is as ill", 4, x.archer(1, 3));
        Check.due("stuck", 4, x.ring(0, 2));
        Check.due("ROUND", 5, x.count(7));
        Check.due("SHOT", 8, x.count(8));
    }

    private static void roundsByRules() {
        StrawButts x = Check.on(GREEN);
        Check.rule(x, "aim 1");
        Check.rule(x, "aim 0-own");
        Check.rule(x, "aim place if archer=1;aim 2 if own=0;aim 3 if ring=9");
        x.force(0);
        Check.due("of several the least", 3, x.round());
        Check.due("2 + 3 is in 5", 1, x.ring(1, 2));
        x.force(1);
        Check.due("none is above 0", 0, x.round());
        Check.due("nobody shoots", 2, x.count(8));
        Check.due("ROUND goes on", 2, x.count(7));
        x.force(2);
        Check.due("clauses", 0, x.round());
        Check.due("0 aims at ring 1", 2, x.ring(1, 2));
        Check.due("1 too, with drift", 4, x.count(8));
        Check.due("not in ring 0", 1, x.ring(0, 2));
    }

    /** The rule aims at a ring only if the word is so; archer 0 is asked about in ROUND 1, SHOT 1. */
    private static void word(String test, boolean holds) {
        StrawButts x = Check.on("green 12 5;wind 3;wind 1;ring 2 3;ring 7 2;ring 9 4;archer 1 2 3 20;archer 0 1 1 0");
        x.shoot(0, 2);
        x.undo();
        x.shoot(0, 1);
        Check.due("rule", 0, Check.rule(x, "aim 0"));
        Check.due("rule " + test, 1, Check.rule(x, "aim 1 if archer=0 and ring=1 and [" + test + "]"));
        x.force(0);
        x.round();
        x.force(1);
        x.round();
        Check.due(test, holds ? 1 : 0, x.count(8) - 1);
    }

    private static void words() {
        word("archer=0", true);
        word("ring=1", true);
        word("own=1", true);
        word("place=7", true);
        word("eases=2", true);
        word("stuck=0", true);
        word("skill=2", true);
        word("away=3", true);
        word("ill=20", true);
        word("arrows=4", true);
        word("wind=1", true);
        word("drift=0-4", true);
        word("drift<0", true);
        word("round=1", true);
        word("round=0", false);
        word("wind=3", false);
    }

    private static void sums() {
        word("2+3*4=14 and 2*3+4=10 and 10-3-2=5", true);
        word("20/3*3=18 and 7%4*2=6 and 100/7/2=7", true);
        word("drift/3=0-1 and drift%3=0-1", true);
        word("5/0+1=1 and 5%0+1=1", true);
        word("1-2*3+4/2%3=0-3", true);
        word("99999*99999*99999*99999*99999<0", true);
        word("99999*99999*99999*99999>0", true);
        word("99999*99999=99998*10000*10+1", true);
    }

    private static void tests() {
        word("1<2 and 2<=2 and 2=2 and 2>=2 and 3>2", true);
        word("2<2", false);
        word("3<=2", false);
        word("1>=2", false);
        word("2>2", false);
        word("1=1 or 1=2 and 1=2", true);
        word("[1=1 or 1=2] and 1=2", false);
        word("1=2 and 1=2 or 1=1", true);
        word("not 1=2 and 1=1", true);
        word("not 1=1 or 1=1", true);
        word("not[1=1 or 1=1]", false);
        word("not not 1=1", true);
        word("1=2 or 1=2 or 1=1 and 2=2", true);
        word("1=1 and 1=2 or 2=1 or 3=1", false);
    }

    private static void shots() {
        StrawButts x = Check.on(GREEN);
        Check.due("shoot(1, 0)", 2, x.shoot(1, 0));
        Check.due("sticks", 1, x.ring(0, 2));
        Check.due("eases nobody", 4, x.archer(1, 3));
        Check.due("shoot(1, 0) by wind", 5, x.shoot(1, 0));
        Check.due("their own", 2, x.archer(1, 3));
        Check.due("arrows", 2, x.archer(1, 4));
        Check.due("SHOT", 2, x.count(8));
        Check.due("ROUND", 0, x.count(7));
        x.shoot(1, 1);
        x.shoot(1, 1);
        Check.due("0 at least", 0, x.archer(1, 3));
        Check.due("no arrows", -1, x.shoot(1, 1));
        Check.due("SHOT stays", 4, x.count(8));
        Check.due("no archer", -1, x.shoot(2, 1));
        Check.due("no archer", -1, x.shoot(-1, 1));
        Check.due("no ring", -1, x.shoot(0, 2));
        Check.due("no ring", -1, x.shoot(0, -1));
        Check.due("ACTS", 4, x.count(13));
    }

    private static void hedges() {
        StrawButts x = Check.on("green 3 3;wind 8;wind 0;wind 3;ring 1 1;ring 2 1;ring 0 5;archer 0 4 3 9");
        Check.due("8 drifts by 3", -2, x.shoot(0, 2));
        Check.due("hedge", 1, x.count(11));
        Check.due("0 drifts by -3", -2, x.shoot(0, 1));
        Check.due("3 drifts by -3/4, towards 0", 1, x.shoot(0, 0));
        Check.due("hedge", 2, x.count(11));
        Check.due("ill", 8, x.count(9));
    }

    private static void pulls() {
        StrawButts x = Check.on(GREEN);
        Check.due("nothing sticks", -1, x.pull(0, 0));
        x.round();
        x.round();
        Check.due("pull(0, 1)", 4, x.pull(0, 1));
        Check.due("none sticks then", 0, x.ring(0, 2));
        Check.due("arrows", 6, x.count(10));
        Check.due("again", -1, x.pull(0, 1));
        x.shoot(0, 1);
        Check.due("no archer", -1, x.pull(1, 2));
        Check.due("no archer", -1, x.pull(1, -1));
        Check.due("no ring", -1, x.pull(2, 0));
        Check.due("no ring", -1, x.pull(-1, 0));
        Check.due("ACTS", 4, x.count(13));
        String archers = ";archer 0 1 1 1;archer 0 1 1 1;archer 0 1 1 1;archer 0 1 1 1;archer 0 1 1 1";
        StrawButts many = Check.on("green 3 20;ring 0 1" + archers);
        for (int i = 0; i < 20; i++) {
            many.round();
        }
        Check.due("a hundred stick", 100, many.ring(0, 2));
        Check.due("99 at most", 99, many.pull(0, 3));
        Check.due("one is lost", 99, many.count(10));
        Check.due("from nowhere", 0, many.ring(0, 2));
        Check.due("shoot", 0, many.shoot(3, 0));
        Check.due("and pull", 99, many.pull(0, 3));
    }

    private static void breaths() {
        StrawButts x = new StrawButts();
        Check.due("without a green", -1, x.breath(1));
        x = Check.on(GREEN);
        Check.due("breath(0)", -1, x.breath(0));
        Check.due("breath(21)", -1, x.breath(21));
        Check.due("breath(-1)", -1, x.breath(-1));
        Check.due("breath(20)", 20, x.breath(20));
        Check.due("breath(1)", 21, x.breath(1));
        Check.due("SHOT", 21, x.count(8));
        Check.due("wind 6 then", 6, x.down(0, 0));
        Check.due("ARROWS", 8, x.count(10));
    }

    private static void lessons() {
        StrawButts x = Check.on(GREEN);
        Check.due("teach(0, 1)", -1, x.teach(0, 1));
        Check.due("teach(0, 0)", -1, x.teach(0, 0));
        Check.due("teach(0, 10)", -1, x.teach(0, 10));
        Check.due("teach(2, 5)", -1, x.teach(2, 5));
        Check.due("teach(-1, 5)", -1, x.teach(-1, 5));
        Check.due("ACTS", 0, x.count(13));
        Check.due("teach(0, 9)", 1, x.teach(0, 9));
        Check.due("teach(0, 2)", 9, x.teach(0, 2));
        Check.due("skill", 2, x.archer(0, 1));
    }

    private static void undone() {
        StrawButts x = Check.on(GREEN);
        Check.due("none", -1, x.undo());
        Check.rule(x, "aim 1");
        x.round();
        x.shoot(0, 0);
        x.pull(0, 1);
        x.breath(3);
        x.teach(1, 7);
        x.force(0);
        x.seed(5);
        x.note(0, 0, 2);
        Check.due("teach is undone", 4, x.undo());
        Check.due("skill", 2, x.archer(1, 1));
        Check.due("breath is undone", 3, x.undo());
        Check.due("SHOT", 3, x.count(8));
        Check.due("pull is undone", 2, x.undo());
        Check.due("stuck", 2, x.ring(0, 2));
        Check.due("arrows", 3, x.archer(1, 4));
        Check.due("shoot is undone", 1, x.undo());
        Check.due("arrows", 3, x.archer(0, 4));
        Check.due("SHOT", 2, x.count(8));
        Check.due("round is undone", 0, x.undo());
        Check.due("ROUND", 0, x.count(7));
        Check.due("ill", 11, x.count(9));
        Check.due("none is left", -1, x.undo());
        Check.due("the rule in force stays", 0, x.count(6));
        Check.due("x stays", 5, x.count(14));
        Check.due("notes stay", 1, x.count(12));
        for (int i = 0; i < 25; i++) {
            x.breath(1);
        }
        Check.due("20 at most", 20, x.count(13));
        for (int i = 19; i >= 0; i--) {
            Check.due("undo", i, x.undo());
        }
        Check.due("no more", -1, x.undo());
        Check.due("SHOT", 5, x.count(8));
        x.breath(1);
        Check.green(x, GREEN);
        Check.due("nothing on a new green", -1, x.undo());
    }

    private static void counted() {
        StrawButts x = Check.on("green 3 4;wind 8;wind 4;ring 1 1;ring 2 1;archer 0 1 1 9;archer 1 1 1 3");
        Check.rule(x, "aim own");
        x.force(0);
        x.seed(77);
        x.round();
        x.note(3, 1, 99);
        Check.feed(x, "abc");
        int[] due = {3, 4, 2, 2, 2, 1, 0, 1, 2, 11, 6, 1, 1, 1, 77, 3};
        for (int what = 0; what < due.length; what++) {
            Check.due("count(" + what + ")", due[what], x.count(what));
        }
        Check.due("count(16)", -1, x.count(16));
        Check.due("count(-1)", -1, x.count(-1));
    }
}
