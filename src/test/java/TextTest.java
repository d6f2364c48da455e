/** Promises 1 to 6: a new object, the tape, greens and rules with their faults, the rule in force. */
public final class TextTest {
    private static final String GREEN = "green 10 4;wind 4;wind 6;ring 2 3;ring 5 2;archer 0 1 2 7;archer 1 2 3 4";

    public static void main(String[] args) {
        newObject();
        tape();
        greens();
        greenFaults();
        rules();
        ruleFaults();
        limitsOfRules();
        longTexts();
        inForce();
        Check.finish();
    }

    private static void newObject() {
        StrawButts x = new StrawButts();
        int[] due = {0, 0, 0, 0, 0, 0, -1, 0, 0, 0, 0, 0, 0, 0, 0, 0};
        for (int what = 0; what < due.length; what++) {
            Check.due("new: count(" + what + ")", due[what], x.count(what));
        }
        Check.due("count(-1)", -1, x.count(-1));
        Check.due("count(16)", -1, x.count(16));
        Check.due("new: ring", -1, x.ring(0, 0));
        Check.due("new: archer", -1, x.archer(0, 0));
        Check.due("new: wind", -1, x.wind(0));
        Check.due("new: round", -1, x.round());
        Check.due("new: undo", -1, x.undo());
    }

    private static void tape() {
        StrawButts x = new StrawButts();
        for (int i = 1; i <= 20; i++) {
            Check.due("feed " + i, 20 * i, x.feed(i, -1, Integer.MIN_VALUE, 0, Integer.MAX_VALUE));
        }
        Check.due("feed 21", -1, x.feed(0, 0, 0, 0, 0));
        Check.due("count(15)", 400, x.count(15));
        Check.due("end(401)", -1, x.end(401));
        Check.due("end(-1)", -1, x.end(-1));
        Check.due("end(400)", 400, x.end(400));
        Check.due("end(381)", 381, x.end(381));
        Check.due("feed of 381", -1, x.feed(0, 0, 0, 0, 0));
        Check.due("end(380)", 380, x.end(380));
        Check.due("feed of 380", 400, x.feed(0, 0, 0, 0, 0));
        Check.due("end(0)", 0, x.end(0));
        Check.due("end(1)", -1, x.end(1));
        // the highest byte first: "gree" "n 3 " "0" and what is behind it cut off
        x.feed(0x67726565, 0x6e203320, 0x30000000, 0, 0);
        Check.due("end(9)", 9, x.end(9));
        Check.due("green 3 0", 0, x.green());
        Check.due("LONG", 3, x.count(0));
        Check.due("tape is empty then", 0, x.count(15));
    }

    private static void greens() {
        StrawButts x = new StrawButts();
        Check.due("green", 2, Check.green(x, GREEN));
        int[] due = {10, 4, 2, 2, 2, 0, -1, 0, 0, 11, 8, 0, 0, 0, 0, 0};
        for (int what = 0; what < due.length; what++) {
            Check.due("count(" + what + ")", due[what], x.count(what));
        }
        Check.due("no wind told", 0, Check.green(x, "green 20 20"));
        Check.due("SHOTS that come round", 1, x.count(2));
        Check.due("its wind", 4, x.wind(0));
        Check.due("wind(1)", -1, x.wind(1));
        Check.due("blanks", 1, Check.green(x, "  green3 0  ;ring 0001 00009 ; archer0 1 1 0 "));
        Check.due("eases", 9, x.ring(0, 1));
        String most = "green 20 20;wind 0;wind 1;wind 2;wind 3;wind 4;wind 5;wind 6;wind 7;wind 8;wind 0;wind 1;wind 2"
            + ";ring 0 1;ring 1 2;ring 2 3;ring 3 4;ring 4 5;ring 19 9"
            + ";archer 0 1 1 0;archer 1 9 9 30;archer 2 2 2 2;archer 3 3 3 3;archer 5 4 4 4";
        Check.due("most", 5, Check.green(x, most));
        Check.due("wind(11)", 2, x.wind(11));
        Check.due("wind(12)", -1, x.wind(12));
        Check.due("wind(-1)", -1, x.wind(-1));
        Check.due("thirteenth wind", Check.fault(most.length() + 1, 4), Check.green(x, most + ";wind 1"));
        Check.due("seventh ring", Check.fault(most.length() + 2, 4), Check.green(x, most + "; ring 7 1"));
        Check.due("sixth archer", Check.fault(most.length() + 1, 4), Check.green(x, most + ";archer 0 1 1 0"));
        Check.due("of one place the least", Check.fault(most.length() + 1, 0), Check.green(x, most + ";winds 1"));
    }

    private static void greenFault(String text, int place, int kind) {
        StrawButts x = Check.on(GREEN);
        x.round();
        x.note(0, 0, 2);
        Check.due(text, Check.fault(place, kind), Check.green(x, text));
        Check.due(text + ": tape stays", text.length(), x.count(15));
        Check.due(text + ": LONG stays", 10, x.count(0));
        Check.due(text + ": ROUND stays", 1, x.count(7));
        Check.due(text + ": NOTES stay", 1, x.count(12));
        Check.due(text + ": ACTS stay", 1, x.count(13));
    }

    private static void greenFaults() {
        greenFault("", 0, 0);
        greenFault("   ", 3, 0);
        greenFault("green", 5, 0);
        greenFault("green  ", 7, 0);
        greenFault("green\0", 5, 0);
        greenFault("green 2 0", 6, 1);
        greenFault("green 21 0", 6, 1);
        greenFault("green 000003 0", 6, 1);
        greenFault("green 3 21", 8, 1);
        greenFault("green 3", 7, 0);
        greenFault("green 3;", 7, 0);
        greenFault("wind 0", 0, 4);
        greenFault(" archer", 1, 4);
        greenFault("greens 3 0", 0, 0);
        greenFault("Green 3 0", 0, 0);
        greenFault("green 3 0;", 10, 0);
        greenFault("green 3 0 1", 10, 0);
        greenFault("green 3 0 123456", 10, 0);
        greenFault("green 3 0;green 3 0", 10, 4);
        greenFault("green 3 0;wind 9", 15, 1);
        greenFault("green 3 0;ring 3 1", 15, 1);
        greenFault("green 3 0;ring 0 0", 17, 1);
        greenFault("green 3 0;ring 0 10", 17, 1);
        greenFault("green 3 0;ring 0 1;ring 0 1", 24, 1);
        greenFault("green 3 0;archer 0 1 1 0", 17, 1);
        greenFault("green 3 0;ring 0 1;archer 1 1 1 0", 26, 1);
        greenFault("green 3 0;ring 0 1;archer 0 0 1 0", 28, 1);
        greenFault("green 3 0;ring 0 1;archer 0 10 1 0", 28, 1);
        greenFault("green 3 0;ring 0 1;archer 0 1 0 0", 30, 1);
        greenFault("green 3 0;ring 0 1;archer 0 1 10 0", 30, 1);
        greenFault("green 3 0;ring 0 1;archer 0 1 1 31", 32, 1);
        greenFault("green 3 0;ring 0 1;archer 0 1 1", 31, 0);
        greenFault("green 3 -1", 8, 0);
        greenFault("green 3 0;aim 1", 10, 0);
        greenFault("green 3 0;;", 10, 0);
        greenFault("green 3 0;sing 0 1", 10, 0);
        greenFault("green 3 0;rinz 0 1", 10, 0);
        greenFault("green 3 0;archers 0 1", 10, 0);
        greenFault("green 3 0;own 0", 10, 0);
        greenFault("green 3 0\u00ff", 9, 0);
    }

    private static void rules() {
        StrawButts x = new StrawButts();
        Check.due("rule without a green", 0, Check.rule(x, "aim own"));
        Check.due("tape is empty then", 0, x.count(15));
        Check.due("a fault", Check.fault(3, 0), Check.rule(x, "aim"));
        Check.due("tape is empty behind a fault, too", 0, x.count(15));
        Check.due("what is fed then stands alone", 20, x.feed(0x61696d20, 0x31202b20, 0x20202020, 0x20202020, 0x20202020));
        Check.due("a fault at the end", Check.fault(20, 0), x.rule());
        Check.due("its tape is empty", 0, x.count(15));
        Check.due("the empty tape", Check.fault(0, 0), x.rule());
        Check.due("RULES behind faults", 1, x.count(5));
        for (int i = 1; i < 6; i++) {
            Check.due("rule " + i, i, Check.rule(x, "aim 1;aim own*3-wind/2%drift if not[place<=2 or stuck>1]and 1=1"));
        }
        Check.due("seventh rule", -1, Check.rule(x, "aim own"));
        Check.due("nothing happens", 7, x.count(15));
        Check.due("seventh rule, with a fault", -1, Check.rule(x, "aim"));
        Check.due("nothing happens then, too", 3, x.count(15));
        Check.due("RULES", 6, x.count(5));
    }

    private static void ruleFault(String text, int place, int kind) {
        StrawButts x = new StrawButts();
        Check.due(text, Check.fault(place, kind), Check.rule(x, text));
        Check.due(text + ": no rule", 0, x.count(5));
        Check.due(text + ": tape is empty", 0, x.count(15));
    }

    private static void ruleFits(String text) {
        Check.due(text, 0, Check.rule(new StrawButts(), text));
    }

    private static void ruleFaults() {
        ruleFault("", 0, 0);
        ruleFault("aim", 3, 0);
        ruleFault("aims 1", 0, 0);
        ruleFault("aimown", 0, 0);
        ruleFault("aimz 1", 0, 0);
        ruleFault("bim 1", 0, 0);
        ruleFault("aim {", 4, 0);
        ruleFault("aim 1 if 1=1 an 1=1", 13, 0);
        ruleFault("aim 1 if 1<", 11, 0);
        ruleFault("aim x", 4, 0);
        ruleFault("aim not", 4, 0);
        ruleFault("aim if", 4, 0);
        ruleFault("aim green", 4, 0);
        ruleFault("aim -1", 4, 0);
        ruleFault("aim 1;", 6, 0);
        ruleFault("aim 1 2", 6, 0);
        ruleFault("aim 1 own", 6, 0);
        ruleFault("aim 1 if", 8, 0);
        ruleFault("aim 1 if wind", 13, 0);
        ruleFault("aim 1 if wind =", 15, 0);
        ruleFault("aim 1 if wind = 1]", 17, 0);
        ruleFault("aim 1 if wind < = 1", 16, 0);
        ruleFault("aim 1 if wind = 1 = 1", 18, 0);
        ruleFault("aim 1 if [wind = 1", 18, 0);
        ruleFault("aim 1 if [wind] = 1", 14, 0);
        ruleFault("aim 1 if not", 12, 0);
        ruleFault("aim 1 if wind = 1 and", 21, 0);
        ruleFault("aim 1 if wind = 1 or and", 21, 0);
        ruleFault("aim 1 if wind = 1 aim", 18, 0);
        ruleFault("aim 1 if wind == 1", 15, 0);
        ruleFault("aim 1 if wind => 1", 15, 0);
        ruleFault("aim 5 %", 7, 0);
        ruleFault("aim 5 % %", 8, 0);
        ruleFault("aim 123456", 4, 1);
        ruleFault("aim 1 + 000000", 8, 1);
        ruleFault("aim 1 123456", 6, 0);
        ruleFault("aim 1\t", 5, 0);
        ruleFault("green 3 0", 0, 0);
        ruleFits("aim 99999");
        ruleFits(" aim1if1<1or not 1>=1and[2<=3];aim round ");
        ruleFits("aim archer+ring+own+place+eases+stuck+skill+away+ill+arrows+wind+drift+round");
    }

    private static String repeat(String text, int times) {
        StringBuilder all = new StringBuilder();
        for (int i = 0; i < times; i++) {
            all.append(text);
        }
        return all.toString();
    }

    private static void limitsOfRules() {
        ruleFits(repeat("aim 1;", 11) + "aim 1");
        ruleFault(repeat("aim 1;", 12) + "aim 1", 72, 4);
        ruleFault(repeat("aim 1;", 12) + " aim", 73, 4);
        ruleFault(repeat("aim 1;", 12) + "x", 72, 0);
        ruleFault(repeat("aim 1;", 12), 72, 0);
        ruleFits("aim 1 if " + repeat("[", 10) + "1=1" + repeat("]", 10));
        ruleFault("aim 1 if " + repeat("[", 11) + "1=1" + repeat("]", 11), 19, 2);
        ruleFits("aim 1 if " + repeat("not ", 10) + "1=1");
        ruleFault("aim 1 if " + repeat("not ", 11) + "1=1", 49, 2);
        ruleFault("aim 1 if " + repeat("not[", 5) + "not", 29, 2);
        ruleFits("aim 1 if " + repeat("not ", 10) + "1=1 and " + repeat("[", 10) + "1=1" + repeat("]", 10));
        ruleFits("aim 1" + repeat("+1", 59));
        ruleFault("aim 1" + repeat("+1", 60), 5 + 119, 3);
        ruleFault("aim 1" + repeat("+1", 59) + "+x", 5 + 119, 0);
        ruleFault("aim 1" + repeat("+1", 59) + "+123456", 5 + 119, 1);
        ruleFault("aim 1" + repeat("+1", 59) + "+", 5 + 119, 0);
        ruleFault("aim 1" + repeat("+1", 59) + " if own = 1", 5 + 122, 3);
        ruleFault("aim 1" + repeat("+1", 58) + " if own = 1", 5 + 116 + 8, 3);
        ruleFault("aim 1" + repeat("+1", 57) + " if own = 1", 5 + 114 + 10, 3);
        ruleFits("aim 1" + repeat("+1", 56) + " if own = 1");
        ruleFault("aim 1" + repeat("+1", 56) + " if own = 1;aim 2", 5 + 112 + 16, 3);
    }

    private static void longTexts() {
        greenFault(repeat(";", 400), 0, 0);
        greenFault(repeat(" ", 400), 400, 0);
        greenFault(repeat(" ", 395) + "green", 400, 0);
        ruleFault(repeat(" ", 397) + "aim", 400, 0);
        ruleFault("aim 1 if " + repeat("not ", 9) + "1=1" + repeat("]", 352), 48, 0);
        ruleFits("aim" + repeat(" ", 396) + "1");
        String clause = ";aim 1 if 1=1 or 1=1";
        ruleFault("aim 1" + repeat(clause, 7) + repeat(" ", 254) + "=", 399, 0);
    }

    private static void inForce() {
        StrawButts x = new StrawButts();
        Check.due("force(0) of none", -2, x.force(0));
        Check.due("force(NONE)", -1, x.force(-1));
        Check.rule(x, "aim own");
        Check.rule(x, "aim 1");
        Check.due("force(1)", -1, x.force(1));
        Check.due("count(6)", 1, x.count(6));
        Check.due("force(2)", -2, x.force(2));
        Check.due("force(-2)", -2, x.force(-2));
        Check.due("stays by a green", 2, Check.green(x, GREEN));
        Check.due("force(0)", 1, x.force(0));
        Check.due("force(NONE)", 0, x.force(-1));
        Check.due("count(6)", -1, x.count(6));
    }
}
