/** Promises 26, 27 and 30 to 32: notes, and what can have been by them. */
public final class NotesTest {
    private static final String GREEN = "green 10 4;wind 4;wind 6;ring 2 3;ring 5 2;archer 0 1 2 7;archer 1 2 3 4";

    public static void main(String[] args) {
        notes();
        skilled();
        ails();
        ruled();
        look();
        laterRounds();
        Check.finish();
    }

    private static void notes() {
        StrawButts x = new StrawButts();
        Check.due("without a green", -2, x.note(0, 0, 0));
        Check.due("none then", 0, x.note(-1, 0, 0));
        x = Check.on(GREEN);
        Check.due("n -2", -2, x.note(-2, 0, 0));
        Check.due("n 41", -2, x.note(41, 0, 0));
        Check.due("archer 2", -2, x.note(0, 2, 0));
        Check.due("archer -1", -2, x.note(0, -1, 0));
        Check.due("place 10", -2, x.note(0, 0, 10));
        Check.due("place -2", -2, x.note(0, 0, -2));
        Check.due("place 98", -2, x.note(0, 0, 98));
        Check.due("place 100", -2, x.note(0, 0, 100));
        int[] places = {0, 9, -1, 99, 0, 0, 0, 0, 0, 0};
        for (int i = 0; i < 10; i++) {
            Check.due("note " + i, i + 1, x.note(i == 9 ? 40 : i, i % 2, places[i]));
        }
        Check.due("an eleventh", -2, x.note(0, 0, 0));
        Check.due("NOTES", 10, x.count(12));
        Check.due("no acts", -1, x.undo());
        Check.due("none then", 0, x.note(-1, 77, 77));
        Check.due("NOTES", 0, x.count(12));
        x.note(0, 0, 0);
        Check.green(x, GREEN);
        Check.due("none on a new green", 0, x.count(12));
    }

    private static void skilled() {
        StrawButts x = Check.on(GREEN);
        Check.due("no notes", 1022, x.skilled(0));
        x.note(0, 1, 8);
        Check.due("drift 3", 4, x.skilled(1));
        Check.due("of the other one", 1022, x.skilled(0));
        x.note(-1, 0, 0);
        x.note(0, 1, 6);
        Check.due("drift 1", 16 + 32 + 64, x.skilled(1));
        Check.due("of the other one", 0, x.skilled(0));
        x.note(1, 0, 2);
        x.note(5, 0, 99);
        Check.due("more notes", 16 + 32 + 64, x.skilled(1));
        x.note(1, 0, 99);
        Check.due("none", 0, x.skilled(1));
        Check.due("archer 2", -1, x.skilled(2));
        Check.due("archer -1", -1, x.skilled(-1));
        Check.due("without a green", -1, new StrawButts().skilled(0));
        // from the begin on, all else as the text told it, by the rule in force
        StrawButts y = Check.on(GREEN);
        y.note(0, 1, 8);
        y.round();
        y.round();
        y.teach(1, 9);
        y.teach(0, 9);
        Check.due("whatever was done", 4, y.skilled(1));
        Check.due("whatever was done", 1022, y.skilled(0));
        Check.rule(y, "aim 1");
        y.force(0);
        Check.due("by the rule in force", 2, y.skilled(1));
        StrawButts hedge = Check.on("green 5 1;wind 8;ring 1 1;archer 0 5 6 0");
        hedge.note(0, 0, -1);
        Check.due("in the hedge", 2 + 4 + 8 + 16 + 32 + 64, hedge.skilled(0));
    }

    private static void ails() {
        StrawButts x = Check.on(GREEN);
        Check.due("no notes", 3, x.ails(0));
        x.note(0, 1, 8);
        Check.due("ring 1", 2, x.ails(1));
        Check.due("of the other one", 3, x.ails(0));
        x.note(-1, 0, 0);
        x.note(0, 1, 5);
        Check.due("ring 0", 1, x.ails(1));
        x.note(0, 0, 5);
        Check.due("none", 0, x.ails(1));
        Check.due("archer 2", -1, x.ails(2));
        Check.due("archer -1", -1, x.ails(-1));
        Check.due("without a green", -1, new StrawButts().ails(0));
    }

    private static StrawButts withRules() {
        StrawButts x = Check.on(GREEN);
        Check.rule(x, "aim own");
        Check.rule(x, "aim 1");
        Check.rule(x, "aim 0");
        return x;
    }

    private static void ruledBy(StrawButts x, int many, int first) {
        Check.due("how many", many, x.ruled(0));
        Check.due("the first", first, x.ruled(1));
    }

    private static void ruled() {
        Check.due("without a green", -3, new StrawButts().ruled(0));
        StrawButts x = withRules();
        ruledBy(x, 4, -1);
        x.force(2);
        x.round();
        x.note(0, 1, 8);
        ruledBy(x, 2, -1);
        x.note(-1, 0, 0);
        x.note(0, 1, 5);
        ruledBy(x, 1, 1);
        x.note(-1, 0, 0);
        x.note(3, 1, 99);
        ruledBy(x, 1, 2);
        x.note(0, 1, 5);
        ruledBy(x, 0, -2);
        Check.due("what 2", -3, x.ruled(2));
        Check.due("what -1", -3, x.ruled(-1));
        StrawButts empty = Check.on("green 3 0");
        ruledBy(empty, 1, -1);
    }

    private static void look() {
        Check.due("without a green", -1, new StrawButts().look(0, 0));
        StrawButts x = withRules();
        Check.due("archer 1", 1, x.look(0, 0));
        Check.due("how many are alike", 2, x.look(0, 1));
        Check.due("all are out of arrows", 0, x.look(4, 0));
        Check.due("all are out of arrows", 4, x.look(4, 1));
        x.note(0, 1, 8);
        Check.due("alike for both", 0, x.look(0, 0));
        Check.due("alike for both", 2, x.look(0, 1));
        x.note(0, 1, 5);
        Check.due("none is so", -2, x.look(0, 0));
        Check.due("none is so", -2, x.look(40, 1));
        Check.due("n 41", -1, x.look(41, 0));
        Check.due("n -1", -1, x.look(-1, 0));
        Check.due("what 2", -1, x.look(0, 2));
        Check.due("what -1", -1, x.look(0, -1));
        Check.due("no archers", -2, Check.on("green 3 0;ring 0 1").look(0, 0));
    }

    /** What a rule does in round 40 counts too, however still it was up to then. */
    private static void laterRounds() {
        StrawButts x = Check.on("green 5 3;ring 1 1;ring 2 1;archer 0 1 1 9;archer 1 1 1 9");
        Check.rule(x, "aim 1 if round=40");
        Check.rule(x, "aim 0");
        x.note(0, 0, 99);
        ruledBy(x, 2, 0);
        Check.due("look", 0, x.look(40, 0));
        Check.due("look", 1, x.look(40, 1));
        Check.due("look", 2, x.look(39, 1));
        x.note(40, 1, 1);
        ruledBy(x, 1, 0);
        x.force(0);
        Check.due("skilled", 1022, x.skilled(1));
        Check.due("ails", 3, x.ails(1));
        x.force(1);
        Check.due("skilled", 0, x.skilled(1));
    }
}
