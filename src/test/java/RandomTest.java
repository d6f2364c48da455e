import java.util.Random;

/** All promises: runs of drawn calls, each answer held against Oracle's. The draws are always the same. */
public final class RandomTest {
    private static final int RUNS = 600;
    private static final int CALLS = 150;
    private static final String[] WORDS = {"archer", "ring", "own", "place", "eases", "stuck", "skill", "away", "ill",
        "arrows", "wind", "drift", "round"};

    private static final int[] ODD = {Integer.MIN_VALUE, Integer.MAX_VALUE, -1, -2, -3, 99, 100, 1000};

    private final Random random;
    private final StrawButts x = new StrawButts();
    private final Oracle o = new Oracle();
    private final int run;

    private RandomTest(int run) {
        this.run = run;
        random = new Random(1000003L * run + 17);
    }

    public static void main(String[] args) {
        for (int run = 0; run < RUNS; run++) {
            new RandomTest(run).play();
        }
        Check.finish();
    }

    private void play() {
        int ahead = below(6);
        for (int i = 0; i < ahead; i++) {
            text(rule(), false);
        }
        if (below(20) > 0) {
            text(green(), true);
        }
        for (int call = 0; call < CALLS; call++) {
            switch (below(4)) {
                case 0: act(below(12)); break;
                case 1: ask(below(15)); break;
                case 2: study(below(6)); break;
                default: rest(below(12)); break;
            }
            if (below(60) == 0) {
                text(below(3) == 0 ? spoilt(green()) : green(), true);
            } else if (below(25) == 0) {
                text(below(3) == 0 ? spoilt(rule()) : rule(), false);
            }
        }
        for (int i = 0; run % 10 == 0 && i < 25; i++) {
            act(below(10));
        }
        for (int i = 0; run % 10 == 0 && i < 25; i++) {
            act(10);
            counts();
        }
    }

    private int below(int n) {
        return random.nextInt(n);
    }

    private String green() {
        StringBuilder text = new StringBuilder();
        int length = 3 + below(below(2) == 0 ? 6 : 18);
        text.append("green ").append(length).append(' ').append(below(below(2) == 0 ? 6 : 21));
        int rings = below(5) == 0 ? below(7) : 2 + below(4);
        int winds = below(below(3) == 0 ? 13 : 4);
        int archers = rings == 0 ? 0 : below(5) == 0 ? below(6) : 1 + below(4);
        for (int i = 0; i < winds; i++) {
            text.append(";wind ").append(below(3) == 0 ? below(9) : 3 + below(3));
        }
        int place = below(3);
        for (int i = 0; i < rings; i++) {
            text.append(";ring ").append(place % (length + below(20) / 19)).append(' ').append(1 + below(9));
            place += 1 + below(3);
        }
        for (int i = 0; i < archers; i++) {
            text.append(";archer ").append(below(rings)).append(' ').append(1 + below(9)).append(' ');
            text.append(1 + below(9)).append(' ').append(below(31));
        }
        return text.toString();
    }

    private String rule() {
        StringBuilder text = new StringBuilder();
        int clauses = below(9) == 0 ? 1 + below(13) : 1 + below(3);
        for (int i = 0; i < clauses; i++) {
            text.append(i == 0 ? "aim " : ";aim ");
            sum(text);
            if (below(3) > 0) {
                text.append(" if ");
                test(text, 0);
            }
        }
        return text.toString();
    }

    private void test(StringBuilder text, int depth) {
        int parts = 1 + below(3) * below(2);
        for (int i = 0; i < parts; i++) {
            text.append(i == 0 ? "" : below(2) == 0 ? " and " : " or ");
            int kind = below(depth < 3 ? 6 : 30);
            if (kind == 0) {
                text.append(below(2) == 0 ? "not[" : "[");
                test(text, depth + 1);
                text.append(']');
            } else {
                text.append(kind == 1 ? "not " : "");
                sum(text);
                text.append(new String[] {"<", "<=", "=", ">=", ">"}[below(5)]);
                sum(text);
            }
        }
    }

    private void sum(StringBuilder text) {
        int values = 1 + below(3) * below(3) / 2;
        for (int i = 0; i < values; i++) {
            text.append(i == 0 ? "" : "+-*/%".substring(below(5)).substring(0, 1)).append(below(8) == 0 ? " " : "");
            if (below(3) == 0) {
                text.append(below(9) == 0 ? below(100000) : below(9));
            } else {
                text.append(WORDS[below(WORDS.length)]);
            }
        }
    }

    private String spoilt(String text) {
        StringBuilder spoilt = new StringBuilder(text);
        int at = below(text.length() + 1);
        String[] bits = {" ", ";", "[", "]", "not ", "9", "x", "<", "=", "+", "\0", "if", "aim ", "\u00e9", "wind ",
            "1=1 and ", "123456", "+1+1+1+1+1+1+1+1+1+1+1+1+1+1+1+1+1+1+1+1+1+1+1+1+1+1+1+1+1+1+1+1+1+1+1+1+1+1"};
        if (below(4) == 0) {
            spoilt.setLength(at);
        } else if (below(3) == 0 && at < text.length()) {
            spoilt.deleteCharAt(at);
        } else {
            spoilt.insert(at, bits[below(bits.length)]);
        }
        return spoilt.toString();
    }

    /** Mostly it is alone on the tape; now and then behind what was left there, or ahead of what fills up a feed. */
    private void text(String text, boolean isGreen) {
        if (below(8) > 0) {
            due("end", all(0), o.end(0), x.end(0));
        }
        for (int at = 0; at < text.length(); at += 20) {
            int[] five = new int[5];
            for (int i = 0; i < 20; i++) {
                int sign = at + i < text.length() ? text.charAt(at + i) : 0;
                five[i / 4] = five[i / 4] << 8 | sign;
            }
            due("feed", five, o.feed(five), x.feed(five[0], five[1], five[2], five[3], five[4]));
        }
        int end = Math.max(0, o.count(15) - (20 - text.length() % 20) % 20);
        if (below(8) > 0) {
            due("end", all(end), o.end(end), x.end(end));
        }
        if (isGreen) {
            due("green \"" + text + "\"", all(), o.green(), x.green());
        } else {
            due("rule \"" + text + "\"", all(), o.rule(), x.rule());
        }
    }

    private void due(String call, int[] with, int want, int got) {
        StringBuilder told = new StringBuilder("run " + run + ": " + call + "(");
        for (int i : with) {
            told.append(' ').append(i);
        }
        Check.due(told.append(" )").toString(), want, got);
    }

    /** Mostly a number as the document wants it, its edges often, sometimes another. */
    private int in(int least, int most) {
        switch (below(16)) {
            case 0: return least - 1;
            case 1: return most + 1;
            case 2: return below(2) == 0 ? least : most;
            case 3: return below(9) == 0 ? ODD[below(ODD.length)] : most;
            default: return least + below(most - least + 1);
        }
    }

    private int who() {
        return in(0, Math.max(0, o.count(4) - 1));
    }

    private int which() {
        return in(0, Math.max(0, o.count(3) - 1));
    }

    private void act(int kind) {
        int a = who();
        int r = which();
        int n = in(1, 20);
        int s = in(1, 9);
        switch (kind) {
            case 0: case 1: case 2: case 3: due("round", all(), o.round(), x.round()); break;
            case 4: case 5: case 6: due("shoot", all(a, r), o.shoot(a, r), x.shoot(a, r)); break;
            case 7: due("pull", all(r, a), o.pull(r, a), x.pull(r, a)); break;
            case 8: due("breath", all(n), o.breath(n), x.breath(n)); break;
            case 9: due("teach", all(a, s), o.teach(a, s), x.teach(a, s)); break;
            default: due("undo", all(), o.undo(), x.undo()); break;
        }
    }

    private void ask(int kind) {
        int a = who();
        int b = who();
        int r = which();
        int n = below(3) == 0 ? in(1, 20) : in(1, 40);
        int few = in(1, 5);
        int far = in(0, 100);
        int two = in(0, 1);
        int three = in(0, 2);
        int six = in(0, 5);
        switch (kind) {
            case 0: due("ahead", all(a, far, three), o.ahead(a, far, three), x.ahead(a, far, three)); break;
            case 1: due("eased", all(a), o.eased(a), x.eased(a)); break;
            case 2: due("allEased", all(), o.allEased(), x.allEased()); break;
            case 3: due("down", all(a, r), o.down(a, r), x.down(a, r)); break;
            case 4: due("bestAim", all(a, two), o.bestAim(a, two), x.bestAim(a, two)); break;
            case 5: case 6: due("row", all(a, few, six), o.row(a, few, six), x.row(a, few, six)); break;
            case 7: due("hold", all(a), o.hold(a), x.hold(a)); break;
            case 8: due("leastSkill", all(a, n), o.leastSkill(a, n), x.leastSkill(a, n)); break;
            case 9: due("set", all(r, n, two), o.set(r, n, two), x.set(r, n, two)); break;
            case 10: due("given", all(n, two), o.given(n, two), x.given(n, two)); break;
            case 11: due("rests", all(a, b, few, three), o.rests(a, b, few, three), x.rests(a, b, few, three)); break;
            case 12: due("rests", all(a, b, n, three), o.rests(a, b, n, three), x.rests(a, b, n, three)); break;
            case 13: due("gusts", all(few, n, far, two), o.gusts(few, n, far, two), x.gusts(few, n, far, two)); break;
            default: due("gusts", all(n, few, far, two), o.gusts(n, few, far, two), x.gusts(n, few, far, two)); break;
        }
    }

    private void study(int kind) {
        int a = who();
        int n = below(3) == 0 ? in(0, 40) : below(6);
        int two = in(0, 1);
        switch (kind) {
            case 0: case 1: takeNote(n, a); break;
            case 2: due("skilled", all(a), o.skilled(a), x.skilled(a)); break;
            case 3: due("ails", all(a), o.ails(a), x.ails(a)); break;
            case 4: due("ruled", all(two), o.ruled(two), x.ruled(two)); break;
            default: due("look", all(n, two), o.look(n, two), x.look(n, two)); break;
        }
    }

    /** Drawn notes are hardly ever so, so most tell what one of the rules would bring. */
    private void takeNote(int n, int archer) {
        int place = below(5) == 0 ? in(-1, o.count(0) - 1) : o.wouldCome(below(o.count(5) + 1) - 1, n, archer);
        int when = below(20) == 0 ? -1 : n;
        due("note", all(when, archer, place), o.note(when, archer, place), x.note(when, archer, place));
    }

    private void rest(int kind) {
        int a = who();
        int r = which();
        int rule = in(-1, o.count(5) - 1);
        int three = in(0, 2);
        int five = in(0, 4);
        int shot = in(0, 11);
        int much = in(0, 9999);
        int x0 = below(2) == 0 ? random.nextInt() : below(100);
        int k = in(0, 3);
        switch (kind) {
            case 0: case 1: due("force", all(rule), o.force(rule), x.force(rule)); break;
            case 2: due("ring", all(r, three), o.ring(r, three), x.ring(r, three)); break;
            case 3: due("archer", all(a, five), o.archer(a, five), x.archer(a, five)); break;
            case 4: due("wind", all(shot), o.wind(shot), x.wind(shot)); break;
            case 5: case 6: due("pence", all(much, r), o.pence(much, r), x.pence(much, r)); break;
            case 7: due("seed", all(x0), o.seed(x0), x.seed(x0)); break;
            case 8: due("image", all(k), o.image(k), x.image(k)); break;
            case 9: due("back", all(k), o.back(k), x.back(k)); break;
            case 10: due("end", all(much), o.end(much), x.end(much)); break;
            default: counts(); break;
        }
    }

    private static int[] all(int... numbers) {
        return numbers;
    }

    private void counts() {
        for (int what = -1; what < 17; what++) {
            due("count", all(what), o.count(what), x.count(what));
        }
    }
}
