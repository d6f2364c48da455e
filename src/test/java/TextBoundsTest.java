/** The bounds of promises 1 to 6: the new object, the tape, and the texts with their numbers and faults. */
public final class TextBoundsTest {
    private static final String RINGS = "green 20 1;ring 0 1;ring 1 1;ring 2 1;ring 3 1;ring 4 1;ring 19 1";

    public static void main(String[] args) {
        newObject();
        tapeIsFull();
        tapeTakesBytesInOrder();
        tapeEnds();
        longAndQuiver();
        windNumbers();
        ringNumbers();
        archerNumbers();
        numbersByDigits();
        wordsByLetters();
        mostOfEach();
        clausesInOrder();
        greenAtFirst();
        greenTaken();
        greenFaultsLeaveAll();
        sixRules();
        ruleFaultsLeaveRules();
        clausesOfRules();
        depth();
        parts();
        everyByte();
        ends();
        firstFault();
        leastOfOnePlace();
        longestTexts();
        ruleInForce();
        Check.finish();
    }

    private static String times(int n, String text) {
        return text.repeat(n);
    }

    private static void greenFits(String text, int archers) {
        Check.due(text, archers, Check.green(new StrawButts(), text));
    }

    private static void greenFails(String text, int place, int kind) {
        Check.due(text, Check.fault(place, kind), Check.green(new StrawButts(), text));
    }

    private static void ruleFits(String text) {
        Check.due(text, 0, Check.rule(new StrawButts(), text));
    }

    private static void ruleFails(String text, int place, int kind) {
        Check.due(text, Check.fault(place, kind), Check.rule(new StrawButts(), text));
    }

    private static void none(String name, int want, Twin.Call call) {
        Twin.stays("new: " + name, want, StrawButts::new, call);
    }

    /** Promise 1: "No GREEN, no RULES, none IN FORCE": every call that needs one is refused. */
    private static void newObject() {
        none("end(1)", -1, x -> x.end(1));
        none("end(0)", 0, x -> x.end(0));
        none("green", Check.fault(0, 0), StrawButts::green);
        none("rule", Check.fault(0, 0), StrawButts::rule);
        none("force(0)", -2, x -> x.force(0));
        none("force(NONE)", -1, x -> x.force(StrawButts.NONE));
        none("ring", -1, x -> x.ring(0, 0));
        none("archer", -1, x -> x.archer(0, 0));
        none("wind", -1, x -> x.wind(0));
        none("round", -1, StrawButts::round);
        none("shoot", -1, x -> x.shoot(0, 0));
        none("pull", -1, x -> x.pull(0, 0));
        none("breath", -1, x -> x.breath(1));
        none("teach", -1, x -> x.teach(0, 1));
        none("undo", -1, StrawButts::undo);
        none("ahead, ill", -1, x -> x.ahead(0, 0, 0));
        none("ahead, hedge", -1, x -> x.ahead(0, 0, 2));
        none("eased", -1, x -> x.eased(0));
        none("allEased", -1, StrawButts::allEased);
        none("down", -1, x -> x.down(0, 0));
        none("bestAim", -2, x -> x.bestAim(0, 0));
        none("row", -3, x -> x.row(0, 1, 0));
        none("hold", -1, x -> x.hold(0));
        none("leastSkill", -1, x -> x.leastSkill(0, 1));
        none("set", -1, x -> x.set(0, 1, 0));
        none("given, who", -2, x -> x.given(1, 0));
        none("given, how much", -2, x -> x.given(1, 1));
        none("skilled", -1, x -> x.skilled(0));
        none("ails", -1, x -> x.ails(0));
        none("rests", -1, x -> x.rests(0, 1, 1, 0));
        none("pence", -1, x -> x.pence(0, 0));
        none("note", -2, x -> x.note(0, 0, 0));
        none("note 99", -2, x -> x.note(0, 0, 99));
        none("note NONE", 0, x -> x.note(-1, 0, 0));
        none("ruled, how many", -3, x -> x.ruled(0));
        none("ruled, the first", -3, x -> x.ruled(1));
        none("look", -1, x -> x.look(0, 0));
        none("gusts", -1, x -> x.gusts(1, 1, 0, 0));
        for (int k = 0; k < 4; k++) {
            int image = k;
            none("back " + k, -1, x -> x.back(image));
        }
        int[] due = {0, 0, 0, 0, 0, 0, -1, 0, 0, 0, 0, 0, 0, 0, 0, 0};
        StrawButts x = new StrawButts();
        for (int what = 0; what < 16; what++) {
            Check.due("new: count " + what, due[what], x.count(what));
        }
    }

    private static StrawButts fedTo(int length) {
        StrawButts x = new StrawButts();
        Check.feed(x, "green 3 0" + times(length - 9, " "));
        return x;
    }

    /** Promise 2: "NONE, and none comes, if it would have more than 400". */
    private static void tapeIsFull() {
        Check.due("feed of 360", 380, fedTo(360).feed(0, 0, 0, 0, 0));
        Check.due("feed of 379", 399, fedTo(379).feed(0, 0, 0, 0, 0));
        Check.due("feed of 380", 400, fedTo(380).feed(0, 0, 0, 0, 0));
        for (int length : new int[] {381, 385, 399, 400}) {
            Twin.stays("feed of " + length, -1, () -> fedTo(length), x -> x.feed(-1, -1, -1, -1, -1));
        }
        StrawButts x = fedTo(400);
        Check.due("feed of 400", -1, x.feed(1, 2, 3, 4, 5));
        Check.due("again", -1, x.feed(1, 2, 3, 4, 5));
        Check.due("all 400 bytes are a green", 0, x.green());
        Check.due("then there is room", 20, x.feed(1, 2, 3, 4, 5));
    }

    /** Promise 2: "Twenty bytes come behind the TAPE, of each number the highest first". */
    private static void tapeTakesBytesInOrder() {
        StrawButts x = new StrawButts();
        // "gree" "n 12" " 7;r" "ing " "3 4;" and "wind" " 5;w" "ind " "6;  " "ring", cut off behind 6
        Check.due("first", 20, x.feed(0x67726565, 0x6e203132, 0x20373b72, 0x696e6720, 0x3320343b));
        Check.due("second", 40, x.feed(0x77696e64, 0x20353b77, 0x696e6420, 0x363b2020, 0x72696e67));
        Check.due("cut", 33, x.end(33));
        Check.due("green", 0, x.green());
        int[] due = {12, 7, 2, 1};
        for (int what = 0; what < 4; what++) {
            Check.due("count " + what, due[what], x.count(what));
        }
        Check.due("place", 3, x.ring(0, 0));
        Check.due("eases", 4, x.ring(0, 1));
        Check.due("winds", 5, x.wind(0));
        Check.due("winds", 6, x.wind(1));
        // bytes above 127 are bytes like others, and come one by one
        for (int i = 0; i < 20; i++) {
            int[] five = {0x20202020, 0x20202020, 0x20202020, 0x20202020, 0x20202020};
            five[i / 4] |= 0xff << 24 - 8 * (i % 4);
            StrawButts y = new StrawButts();
            y.feed(five[0], five[1], five[2], five[3], five[4]);
            Check.due("255 at " + i, Check.fault(i, 0), y.green());
        }
    }

    /** Promise 3: "The TAPE has its first n bytes alone: n; NONE, and nothing happens, if it has not so many ..". */
    private static void tapeEnds() {
        for (int n : new int[] {-1, Integer.MIN_VALUE, Integer.MAX_VALUE, 401}) {
            Twin.stays("end " + n, -1, () -> fedTo(400), x -> x.end(n));
        }
        for (int n : new int[] {10, 11, -1, 400}) {
            Twin.stays("end of 9: " + n, -1, () -> fedTo(9), x -> x.end(n));
        }
        Twin.stays("end of all", 9, () -> fedTo(9), x -> x.end(9));
        Twin.stay("busy: end 42", -1, x -> x.end(42));
        Twin.stay("busy: end 41", 41, x -> x.end(41));
        StrawButts x = fedTo(400);
        Check.due("end 400", 400, x.end(400));
        Check.due("end 9", 9, x.end(9));
        Check.due("what is cut off is gone", -1, x.end(10));
        Check.due("one behind it", 29, x.feed(0x3b77696e, 0x64203520, 0x20202020, 0x20202020, 0x20202020));
        Check.due("green 3 0;wind 5", 0, x.green());
        Check.due("wind", 5, x.wind(0));
        Check.due("end 0 of the empty tape", 0, x.end(0));
        Check.due("end 1 of the empty tape", -1, x.end(1));
    }

    /** Terms: "LONG 3 to 20 ..; QUIVER 0 to 20". */
    private static void longAndQuiver() {
        for (int n = 0; n <= 25; n++) {
            String first = "green " + n + " 0";
            String second = "green 3 " + n;
            if (n >= 3 && n <= 20) {
                greenFits(first, 0);
                Check.due(first + ": LONG", n, Check.on(first).count(0));
            } else {
                greenFails(first, 6, 1);
            }
            if (n <= 20) {
                greenFits(second, 0);
                Check.due(second + ": QUIVER", n, Check.on(second).count(1));
            } else {
                greenFails(second, 8, 1);
            }
        }
        greenFails("green 99999 0", 6, 1);
        greenFails("green 3 99999", 8, 1);
        greenFails("green -3 0", 6, 0);
        greenFails("green 3 -1", 8, 0);
    }

    /** Terms: "wind NUMBER (0 to 8 ..)"; "Without a wind one SHOT comes round, of wind 4". */
    private static void windNumbers() {
        for (int n = 0; n <= 12; n++) {
            String text = "green 3 0;wind " + n;
            if (n <= 8) {
                greenFits(text, 0);
                Check.due(text, n, Check.on(text).wind(0));
                Check.due(text + ": one comes round", 1, Check.on(text).count(2));
            } else {
                greenFails(text, 15, 1);
            }
        }
        greenFails("green 3 0;wind -1", 15, 0);
        StrawButts still = Check.on("green 3 0");
        Check.due("without a wind: one SHOT", 1, still.count(2));
        Check.due("without a wind: 4", 4, still.wind(0));
        Check.due("without a wind: no second", -1, still.wind(1));
    }

    /** Terms: "ring NUMBER NUMBER (a PLACE of no RING told ahead; EASES 1 to 9)", "PLACES 0 to LONG - 1". */
    private static void ringNumbers() {
        for (int length = 3; length <= 20; length++) {
            String begin = "green " + length + " 0;ring ";
            greenFits(begin + "0 1", 0);
            greenFits(begin + (length - 1) + " 1", 0);
            greenFails(begin + length + " 1", begin.length(), 1);
            greenFails(begin + (length + 1) + " 1", begin.length(), 1);
        }
        for (int eases = 0; eases <= 12; eases++) {
            String text = "green 3 0;ring 2 " + eases;
            if (eases >= 1 && eases <= 9) {
                Check.due(text, eases, Check.on(text).ring(0, 1));
            } else {
                greenFails(text, 17, 1);
            }
        }
        for (int place = 0; place < 6; place++) {
            String again = RINGS.substring(0, RINGS.lastIndexOf(';')) + ";ring " + place + " 1";
            if (place < 5) {
                greenFails(again, again.length() - 3, 1);
            } else {
                greenFits(again, 0);
            }
        }
    }

    private static void archerNumber(int which, int least, int most) {
        String[] numbers = {"0", "1", "1", "0"};
        for (int n = 0; n <= most + 2; n++) {
            numbers[which] = String.valueOf(n);
            String text = "green 3 0;ring 1 1;ring 2 1;archer " + String.join(" ", numbers);
            if (n >= least && n <= most) {
                Check.due(text, n, Check.on(text).archer(0, which));
            } else {
                greenFails(text, 35 + 2 * which, 1);
            }
        }
        numbers[which] = "99999";
        greenFails("green 3 0;ring 1 1;ring 2 1;archer " + String.join(" ", numbers), 35 + 2 * which, 1);
    }

    /** Terms: "archer .. (their OWN RING, that was told; SKILL 1 to 9; AWAY 1 to 9; ILL 0 to 30)". */
    private static void archerNumbers() {
        archerNumber(0, 0, 1);
        archerNumber(1, 1, 9);
        archerNumber(2, 1, 9);
        archerNumber(3, 0, 30);
        greenFails("green 3 0;archer 0 1 1 0;ring 0 1", 17, 1);
        greenFails("green 3 0;ring 0 1;archer 1 1 1 0;ring 1 1", 26, 1);
        greenFits("green 3 0;ring 0 1;archer 0 1 1 0;ring 1 1;archer 1 1 1 0", 2);
        Check.due("the sixth RING", 5, Check.on(RINGS + ";archer 5 1 1 0").archer(0, 0));
        greenFails(RINGS + ";archer 6 1 1 0", RINGS.length() + 8, 1);
    }

    /** Terms: "NUMBER (1 to 5 digits, as far as digits go on)". */
    private static void numbersByDigits() {
        greenFits("green 00003 00000", 0);
        greenFails("green 000003 0", 6, 1);
        greenFails("green 3 000000", 8, 1);
        greenFits("green 3 0;wind 00008", 0);
        greenFails("green 3 0;wind 000008", 15, 1);
        greenFails("green 3 0;wind 99999999999999999999", 15, 1);
        greenFails("green 3 0;wind 4294967296", 15, 1);
        ruleFits("aim 0");
        ruleFits("aim 99999");
        ruleFits("aim 00000");
        ruleFails("aim 100000", 4, 1);
        ruleFails("aim 000000", 4, 1);
        ruleFails("aim 1*4294967297", 6, 1);
        ruleFails("aim " + times(396, "9"), 4, 1);
    }

    /** Terms: "WORDS (small letters, as far as these go on)". */
    private static void wordsByLetters() {
        String[] words = {"archer", "ring", "own", "place", "eases", "stuck", "skill", "away", "ill", "arrows", "wind",
            "drift", "round"};
        for (String word : words) {
            String capital = word.substring(0, 1).toUpperCase() + word.substring(1);
            ruleFits("aim " + word);
            ruleFits("aim 1+" + word + "*2 if " + word + "<" + word);
            ruleFails("aim " + word + "x", 4, 0);
            ruleFails("aim x" + word, 4, 0);
            ruleFails("aim " + word.substring(0, word.length() - 1), 4, 0);
            ruleFails("aim " + capital, 4, 0);
            ruleFails("aim " + word + "1", 4 + word.length(), 0);
            ruleFails("aim 1" + word, 5, 0);
            ruleFails("aim " + word + word, 4, 0);
        }
        for (String word : new String[] {"aim", "if", "or", "and", "not", "green", "z"}) {
            ruleFails("aim " + word, 4, 0);
            ruleFails("aim 1 if 1=" + word, 11, 0);
        }
        ruleFails("aims 1", 0, 0);
        ruleFails("ai 1", 0, 0);
        ruleFails("aimaim 1", 0, 0);
        ruleFails("aim 1 iff 1=1", 6, 0);
        ruleFails("aim 1 i 1=1", 6, 0);
        ruleFails("aim 1 if nots 1=1", 9, 0);
        ruleFails("aim 1 if 1=1 ors 1=1", 13, 0);
        ruleFails("aim 1 if 1=1 ands 1=1", 13, 0);
        ruleFits("aim1if1=1or1=1and1=1and not[1=1]");
        ruleFails("aim 1 if 1=1andnot 1=1", 12, 0);
        greenFits("green3 0;wind4;ring1 1;archer0 1 1 0", 1);
        for (String word : new String[] {"greens", "gree", "Green", "greengreen"}) {
            greenFails(word + " 3 0", 0, 0);
        }
        for (String word : new String[] {"winds", "win", "rings", "rin", "archers", "arche", "Wind", "own", "if"}) {
            greenFails("green 3 0;" + word + " 1 1", 10, 0);
        }
    }

    /** Terms: "12 at most", "RINGS 0 to 5, ARCHERS 0 to 4"; fault 4 at the first byte of the next. */
    private static void mostOfEach() {
        String winds = "green 3 0" + times(12, ";wind 1");
        greenFits("green 3 0" + times(11, ";wind 1"), 0);
        greenFits(winds, 0);
        Check.due("twelve come round", 12, Check.on(winds).count(2));
        greenFails(winds + ";wind 1", winds.length() + 1, 4);
        greenFails(winds + ";  wind", winds.length() + 3, 4);
        greenFits(winds + ";ring 0 1", 0);
        greenFits(RINGS, 0);
        Check.due("six RINGS", 6, Check.on(RINGS).count(3));
        greenFails(RINGS + ";ring 5 1", RINGS.length() + 1, 4);
        greenFails(RINGS + "; ring 0", RINGS.length() + 2, 4);
        greenFits(RINGS + ";wind 1", 0);
        String archers = "green 3 0;ring 0 1" + times(5, ";archer 0 1 1 0");
        greenFits("green 3 0;ring 0 1" + times(4, ";archer 0 1 1 0"), 4);
        greenFits(archers, 5);
        greenFails(archers + ";archer 0 1 1 0", archers.length() + 1, 4);
        greenFails(archers + ";archer 9", archers.length() + 1, 4);
        greenFits(archers + ";ring 1 1;wind 1", 5);
        // 1 + 12 + 6 + 5 CLAUSES are the most that can be: no text comes as far as a 41st
        String all = RINGS + times(12, ";wind 1") + times(5, ";archer 0 1 1 0");
        greenFits(all, 5);
        for (String more : new String[] {"wind 1", "ring 9 1", "archer 0 1 1 0", "green 3 0"}) {
            greenFails(all + ";" + more, all.length() + 1, 4);
        }
    }

    /** Terms: "green .. once, the first CLAUSE"; "a second green, another CLAUSE ahead of it". */
    private static void clausesInOrder() {
        for (String clause : new String[] {"wind 1", "ring 0 1", "archer 0 1 1 0"}) {
            greenFails(clause, 0, 4);
            greenFails("  " + clause + ";green 3 0", 2, 4);
        }
        greenFails("green 3 0;green 3 0", 10, 4);
        greenFails("green 3 0;wind 1; green", 18, 4);
        greenFails("aim 1", 0, 0);
        greenFails("green 3 0;aim 1", 10, 0);
        for (String word : new String[] {"green 3 0", "wind 1", "ring 0 1", "archer 0 1 1 0"}) {
            ruleFails(word, 0, 0);
            ruleFails("aim 1;" + word, 6, 0);
        }
    }

    /** Terms: "It is ROUND 0, SHOT 0; nothing sticks anywhere." */
    private static void greenAtFirst() {
        StrawButts x = Twin.busy();
        Check.due("green", 1, x.green());
        int[] due = {12, 3, 1, 1, 1, 2, 1, 0, 0, 9, 3, 0, 0, 0, 77, 0};
        for (int what = 0; what < due.length; what++) {
            Check.due("green in place of another: count " + what, due[what], x.count(what));
        }
        Check.due("nothing sticks", 0, x.ring(0, 2));
        Check.due("no RING of the other one", -1, x.ring(1, 0));
        Check.due("no ARCHER of the other one", -1, x.archer(1, 0));
        Check.due("no wind of the other one", -1, x.wind(1));
    }

    /** Promise 4: "no NOTES, nothing to be UNDONE; the RULE IN FORCE and x stay". */
    private static void greenTaken() {
        StrawButts x = Twin.busy();
        Check.due("green", 1, x.green());
        Check.due("no NOTES", 0, x.count(12));
        Check.due("no note binds", 1022, x.skilled(0));
        Check.due("nothing to be UNDONE", -1, x.undo());
        Check.due("the RULE IN FORCE", 1, x.count(6));
        Check.due("x", 77, x.count(14));
        Check.due("the TAPE is empty", 0, x.count(15));
        Check.due("the empty TAPE is none", Check.fault(0, 0), x.green());
        Check.due("an IMAGE of the other one", 1, x.back(1));
        Check.due("its LONG", 10, x.count(0));
        Check.due("no ARCHERS", 0, Check.green(x, "green 20 20"));
        Check.due("nor ILL", 0, x.count(9));
        Check.due("nor ARROWS", 0, x.count(10));
    }

    private static StrawButts busyWith(String text) {
        StrawButts x = Twin.busy();
        Check.feed(x, text);
        return x;
    }

    /** Promise 4: "-2 - its FAULT, and all stays". */
    private static void greenFaultsLeaveAll() {
        String[] texts = {"", "green 2 0", "green 3 0;wind 1;wind 9", "green 3 0;ring 0 1;archer 0 1 1 31",
            RINGS + ";ring 7 1", "green 3 0;ring 0 1;ring 1 1;archer 1 1 1 9;", "green 3 000000", "wind 1"};
        int[] faults = {0, 8 * 6 + 1, 8 * 22 + 1, 8 * 32 + 1, 8 * 66 + 4, 8 * 43, 8 * 8 + 1, 4};
        for (int i = 0; i < texts.length; i++) {
            String text = texts[i];
            Twin.stays("green of " + text, -2 - (1 + faults[i]), () -> busyWith(text), StrawButts::green);
        }
    }

    private static StrawButts withRules(int n) {
        StrawButts x = Twin.busy();
        for (int i = 2; i < n; i++) {
            Check.due("rule " + i, i, Check.rule(x, "aim " + i));
        }
        return x;
    }

    /** Promise 5: "NONE, and nothing happens: there are 6". */
    private static void sixRules() {
        StrawButts five = withRules(5);
        Check.due("a sixth", 5, Check.rule(five, "aim own"));
        Check.due("RULES", 6, five.count(5));
        for (String text : new String[] {"aim own", "aim", "", "green 3 0"}) {
            Twin.stays("a seventh: " + text, -1, () -> {
                StrawButts x = withRules(6);
                Check.feed(x, text);
                return x;
            }, StrawButts::rule);
        }
    }

    /** Promise 5: "The TAPE, which is empty then"; a fault makes no RULE, and all but the TAPE stays. */
    private static void ruleFaultsLeaveRules() {
        Twin.stays("a fault on the empty tape", Check.fault(0, 0), () -> busyWith(""), StrawButts::rule);
        StrawButts x = withRules(5);
        int[] was = new int[15];
        for (int what = 0; what < 15; what++) {
            was[what] = x.count(what);
        }
        Check.due("a fault", Check.fault(4, 1), Check.rule(x, "aim 123456"));
        Check.due("the TAPE is empty", 0, x.count(15));
        for (int what = 0; what < 15; what++) {
            Check.due("a fault of a rule: count " + what, was[what], x.count(what));
        }
        Check.due("there is still room for one", 5, Check.rule(x, "aim 1"));
    }

    /** Terms: "12 CLAUSES at most". */
    private static void clausesOfRules() {
        ruleFits("aim 1");
        ruleFits(times(11, "aim 1;") + "aim 1");
        ruleFails(times(12, "aim 1;") + "aim 1", 72, 4);
        ruleFails(times(12, "aim 1;") + "  aim", 74, 4);
        ruleFails(times(15, "aim 1;") + "aim 1", 72, 4);
        ruleFits(times(11, "aim 1 if 1=1;") + "aim 1 if 1=1");
        ruleFails(times(12, "aim 1 if 1=1;") + "aim 1", 156, 4);
        ruleFails("", 0, 0);
        ruleFails(";", 0, 0);
        ruleFails("aim 1;", 6, 0);
        ruleFails("aim 1;;aim 1", 6, 0);
    }

    /** Terms: "[ and not lie within one another 10 deep at most"; fault 2 "at the sign that opens, or the word not". */
    private static void depth() {
        ruleFits("aim 1 if " + times(9, "[") + "1=1" + times(9, "]"));
        ruleFits("aim 1 if " + times(10, "[") + "1=1" + times(10, "]"));
        ruleFails("aim 1 if " + times(11, "[") + "1=1" + times(11, "]"), 9 + 10, 2);
        ruleFits("aim 1 if " + times(10, "not ") + "1=1");
        ruleFails("aim 1 if " + times(11, "not ") + "1=1", 9 + 40, 2);
        ruleFits("aim 1 if " + times(5, "not[") + "1=1" + times(5, "]"));
        ruleFails("aim 1 if " + times(5, "not[") + "not 1=1" + times(5, "]"), 9 + 20, 2);
        ruleFails("aim 1 if " + times(5, "not[") + "[1=1" + times(6, "]"), 9 + 20, 2);
        ruleFails("aim 1 if [" + times(10, "not ") + "1=1]", 9 + 1 + 36, 2);
        ruleFails("aim 1 if " + times(10, "[") + "1=1 and [1=1]", 9 + 10 + 8, 2);
        ruleFails("aim 1 if " + times(10, "[") + "1=1 or not 1=1", 9 + 10 + 7, 2);
        // what is closed again is deep no more, nor is another clause
        String deep = times(10, "[") + "1=1" + times(10, "]");
        ruleFits("aim 1 if " + deep + " and " + deep + " or " + deep);
        ruleFits("aim 1 if [" + times(9, "[") + "1=1" + times(9, "]") + " and " + times(9, "not ") + "1=1]");
        ruleFits("aim 1 if " + deep + ";aim 1 if " + deep);
        ruleFits("aim 1 if " + times(10, "not ") + "1=1 and " + times(10, "not ") + "1=1");
    }

    /** Terms: "at most 60 VALUES (of SUMS) and FACTS made of a SIGN, together"; fault 3. */
    private static void parts() {
        ruleFits("aim 1" + times(59, "+1"));
        ruleFails("aim 1" + times(60, "+1"), 5 + 119, 3);
        ruleFails("aim 1" + times(60, "*own"), 5 + 59 * 4 + 1, 3);
        String facts = " if 1=1" + times(18, " or 1=1");
        ruleFits("aim 1+1+1" + facts);
        ruleFails("aim 1+1+1+1" + facts, 11 + facts.length() - 1, 3);
        ruleFails("aim 1+1+1+1+1" + facts, 13 + facts.length() - 2, 3);
        ruleFails("aim 1+1+1+1+1+1" + facts, 15 + facts.length() - 3, 3);
        ruleFails("aim 1+1+1" + facts + " and 1=1", 9 + facts.length() + 5, 3);
        // brackets, not, and, or and clauses are none of them
        ruleFits("aim 1+1+1 if not[1=1" + times(18, " and 1=1") + "]");
        ruleFits(times(11, "aim 1 if 1=1;") + "aim 1" + times(15, "+1"));
        ruleFails(times(11, "aim 1 if 1=1;") + "aim 1" + times(16, "+1"), 143 + 4 + 32, 3);
        ruleFails("aim 1" + times(59, "+1") + ";aim 1", 5 + 118 + 5, 3);
        ruleFails("aim 1" + times(58, "+1") + " if 1 <= 1", 5 + 116 + 6, 3);
    }

    /** Terms: fault 0, "a byte .. that can't stand there"; "Blanks (32) stand between as one likes". */
    private static void everyByte() {
        for (int b = 0; b < 256; b++) {
            String sign = String.valueOf((char) b);
            boolean isDigit = b >= '0' && b <= '9';
            boolean isBlank = b == 32;
            Check.due("byte " + b + " as a green", Check.fault(isBlank ? 1 : 0, 0), Check.green(new StrawButts(), sign));
            Check.due("byte " + b + " as a rule", Check.fault(isBlank ? 1 : 0, 0), Check.rule(new StrawButts(), sign));
            int green = isBlank ? 0 : isDigit ? Check.fault(6, 1) : Check.fault(7, 0);
            Check.due("byte " + b + " in a green", green, Check.green(new StrawButts(), "green 3" + sign + "4"));
            boolean joins = isDigit || "+-*/%".indexOf(b) >= 0;
            int rule = joins ? 0 : Check.fault(isBlank || b == ';' ? 6 : 5, 0);
            Check.due("byte " + b + " in a sum", rule, Check.rule(new StrawButts(), "aim 1" + sign + "2"));
            boolean compares = "<=>".indexOf(b) >= 0;
            int fact = compares ? 0 : joins ? Check.fault(12, 0) : Check.fault(isBlank ? 11 : 10, 0);
            Check.due("byte " + b + " in a fact", fact, Check.rule(new StrawButts(), "aim 1 if 1" + sign + "2"));
            boolean isLetter = b >= 'a' && b <= 'z';
            boolean parts = isBlank || b == ';';
            int word = "+-*/%".indexOf(b) >= 0 ? 0 : Check.fault(isLetter ? 4 : parts ? 8 : 7, 0);
            Check.due("byte " + b + " behind a word", word, Check.rule(new StrawButts(), "aim own" + sign + "1"));
            int into = isBlank ? 0 : Check.fault(isLetter ? 0 : isDigit ? 4 : 3, 0);
            Check.due("byte " + b + " ahead of a word", into, Check.rule(new StrawButts(), "aim" + sign + "own"));
            int behind = isBlank ? 0 : b == ';' ? Check.fault(10, 0) : isDigit ? 0 : Check.fault(9, 0);
            Check.due("byte " + b + " behind a green", behind, Check.green(new StrawButts(), "green 3 0" + sign));
        }
        greenFits("   green   3   0   ;   ring   1   1   ", 0);
        ruleFits("   aim   1   if   [   1   <=   1   ]   ");
        ruleFails("ai m 1", 0, 0);
        ruleFails("aim 1 2", 6, 0);
        ruleFails("aim 1 if 1 < = 1", 13, 0);
        ruleFails("aim 1 if 1 > = 1", 13, 0);
        ruleFails("aim 1 if 1 = < 1", 13, 0);
        ruleFails("aim 1 if 1 <> 1", 12, 0);
    }

    /** Terms: fault 0, ".. or the end (behind the last byte)". */
    private static void ends() {
        String[] greens = {"", "green", "green 3", "green 3 0;", "green 3 0;wind", "green 3 0;ring", "green 3 0;ring 1",
            "green 3 0;ring 1 1;archer", "green 3 0;ring 1 1;archer 0", "green 3 0;ring 1 1;archer 0 1",
            "green 3 0;ring 1 1;archer 0 1 1"};
        for (String text : greens) {
            greenFails(text, text.length(), 0);
            greenFails(text + "  ", text.length() + 2, 0);
        }
        String[] rules = {"", "aim", "aim 1+", "aim 1*", "aim 1;", "aim 1 if", "aim 1 if 1", "aim 1 if 1<", "aim 1 if 1<=",
            "aim 1 if not", "aim 1 if [", "aim 1 if [1=1", "aim 1 if 1=1 and", "aim 1 if 1=1 or", "aim 1 if 1=1;"};
        for (String text : rules) {
            ruleFails(text, text.length(), 0);
            ruleFails(text + "  ", text.length() + 2, 0);
        }
    }

    /** Terms: "FAULTS, the first along the text". */
    private static void firstFault() {
        greenFails("green 2 21", 6, 1);
        greenFails("green 2 x", 6, 1);
        greenFails("green x 21", 6, 0);
        greenFails("green 3 0;ring 3 0;wind 9", 15, 1);
        greenFails("green 3 0;ring 0 0;ring 0 1", 17, 1);
        greenFails("green 3 0;ring 0 1;archer 0 1 0 31;winds", 30, 1);
        ruleFails("aim 123456 if x", 4, 1);
        ruleFails("aim x + 123456", 4, 0);
        ruleFails("aim 1 if " + times(11, "[") + "123456", 19, 2);
        ruleFails("aim 1 if [123456" + times(11, "["), 10, 1);
        ruleFails("aim 1" + times(60, "+1") + " if " + times(11, "["), 124, 3);
        ruleFails(times(12, "aim 1;") + "aim 123456", 72, 4);
    }

    /** Terms: "Of one place the least." */
    private static void leastOfOnePlace() {
        greenFails("green 3 0 123456", 10, 0);
        greenFails("green 3 0;123456", 10, 0);
        greenFails("green 3 0" + times(12, ";wind 1") + ";winds 1", 94, 0);
        ruleFails("aim 1 123456", 6, 0);
        ruleFails("aim 1 if 1=1 123456", 13, 0);
        ruleFails(times(12, "aim 1;") + "aims 1", 72, 0);
        ruleFails("aim 1" + times(59, "+1") + "+123456", 124, 1);
        ruleFails("aim 1" + times(59, "+1") + "+[", 124, 0);
        ruleFails("aim 1" + times(59, "+1") + "+if", 124, 0);
        ruleFails("aim 1" + times(59, "+1") + "=1", 123, 0);
        ruleFails("aim 1" + times(59, "+1") + "+", 124, 0);
        ruleFails("aim 1 if " + times(10, "[") + "1=[", 21, 0);
        ruleFails("aim 1 if " + times(10, "[") + "1=1[", 22, 0);
        ruleFails("aim 1 if " + times(10, "[") + "1=1 not", 23, 0);
        ruleFails("aim 1" + times(59, "+1") + " if " + times(11, "["), 137, 2);
        ruleFails("aim 1" + times(59, "+1") + " if not", 130, 0);
    }

    /** Terms: "a text of at most 400 bytes": the last byte counts, and the end is place 400. */
    private static void longestTexts() {
        greenFits(times(391, " ") + "green 3 0", 0);
        greenFits("green 3 0" + times(391, " "), 0);
        greenFails("green 3 0" + times(390, " ") + ";", 400, 0);
        greenFails("green 3 0" + times(390, " ") + "x", 399, 0);
        greenFails(times(399, " ") + "g", 399, 0);
        ruleFits(times(395, " ") + "aim 1");
        ruleFits("aim 1" + times(395, " "));
        ruleFails("aim 1" + times(394, " ") + "+", 400, 0);
        ruleFails("aim 1" + times(394, " ") + "[", 399, 0);
        ruleFails(times(394, " ") + "aim 1+", 400, 0);
        ruleFits("aim 1" + times(380, " ") + "if 00001>=00001");
        ruleFails("aim 1" + times(380, " ") + "if 00001>=x0001", 395, 0);
        for (String last : new String[] {"<", ">", "="}) {
            ruleFails("aim 1 if 1" + times(389, " ") + last, 400, 0);
        }
        ruleFails("aim 1 if 1=1" + times(385, " ") + "and", 400, 0);
        ruleFails("aim 1" + times(393, " ") + "if", 400, 0);
        ruleFits("aim 1" + times(390, " ") + "+9999");
        // what was on the tape behind its end is no part of the text
        StrawButts x = new StrawButts();
        Check.feed(x, "aim 1 if 1<=11111");
        Check.due("cut behind <", 11, x.end(11));
        Check.due("aim 1 if 1<", Check.fault(11, 0), x.rule());
        Check.feed(x, "green 12 12");
        Check.due("cut behind a digit", 10, x.end(10));
        Check.due("green 12 1", 0, x.green());
        Check.due("QUIVER", 1, x.count(1));
        Check.feed(x, "aim ownown");
        Check.due("cut behind a word", 7, x.end(7));
        Check.due("aim own", 0, x.rule());
    }

    /** Promise 6: "which was; -2, and nothing happens, if there is none such". */
    private static void ruleInForce() {
        for (int rule : new int[] {-2, -3, 2, 3, 6, Integer.MIN_VALUE, Integer.MAX_VALUE}) {
            Twin.stay("force " + rule + " of two", -2, x -> x.force(rule));
        }
        Twin.stay("the one in force", 1, x -> x.force(1));
        StrawButts x = withRules(6);
        Check.due("which was", 1, x.force(0));
        Check.due("the last of six", 0, x.force(5));
        Check.due("no seventh", -2, x.force(6));
        Check.due("stays", 5, x.count(6));
        Check.due("none", 5, x.force(StrawButts.NONE));
        Check.due("none again", -1, x.force(StrawButts.NONE));
        Check.due("none is IN FORCE", -1, x.count(6));
        StrawButts one = new StrawButts();
        Check.rule(one, "aim 1");
        Check.due("a RULE is not IN FORCE by itself", -1, one.count(6));
        Check.due("force 1 of one", -2, one.force(1));
        Check.due("force 0 of one", -1, one.force(0));
    }
}
