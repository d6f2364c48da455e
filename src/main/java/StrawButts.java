import java.util.Arrays;

/** Butts by the yard: a green, its archers and their rules, played by hand and asked about. */
public final class StrawButts {
    public static final int NONE = -1;

    /** What many calls answer where NONE has a meaning of its own. */
    private static final int NOTHING = -2;
    private static final int REFUSED = -3;
    /** How a note tells that an archer did not shoot. */
    private static final int NOT_SHOT = 99;

    private static final int MOST_WINDS = 12;
    private static final int MOST_RINGS = 6;
    private static final int MOST_ARCHERS = 5;
    private static final int MOST_RULES = 6;
    private static final int MOST_IMAGES = 4;
    private static final int MOST_ARROWS = 99;
    private static final int MOST_SKILL = 9;
    private static final int LAST_ROUND = 999;
    private static final int LAST_NOTED = 40;
    private static final int STILL_AIR = 4;

    private final Tape tape = new Tape();
    private final GreenReader greenReader = new GreenReader();
    private final RuleReader ruleReader = new RuleReader();
    private final Rule[] rules = new Rule[MOST_RULES];
    private int ruleCount = 0;
    private final Moment now = new Moment();
    private final Moment[] images = new Moment[MOST_IMAGES];
    private final Acts acts = new Acts();
    private final Play play = new Play();
    private final Forecast forecast = new Forecast();
    private final Study study = new Study();

    public StrawButts() {
        for (int k = 0; k < MOST_IMAGES; k++) {
            images[k] = new Moment();
        }
    }

    // ---- texts -------------------------------------------------------------------------------

    public int feed(int a, int b, int c, int d, int e) {
        if (!tape.hasRoom(20)) {
            return NONE;
        }
        tape.addBytes(a);
        tape.addBytes(b);
        tape.addBytes(c);
        tape.addBytes(d);
        tape.addBytes(e);
        return tape.length;
    }

    public int end(int n) {
        if (!within(n, 0, tape.length)) {
            return NONE;
        }
        tape.length = n;
        return n;
    }

    public int green() {
        int fault = greenReader.readFrom(tape);
        if (fault != 0) {
            return NOTHING - fault;
        }
        now.begin.copyFrom(greenReader.draft);
        now.field.copyFrom(greenReader.draft);
        now.notes.size = 0;
        acts.size = 0;
        tape.length = 0;
        return now.field.cells[Field.ARCHERS];
    }

    public int rule() {
        if (ruleCount >= MOST_RULES) {
            return NONE;
        }
        int fault = ruleReader.readFrom(tape);
        // unlike that of a green, a text with a fault is gone, too
        tape.length = 0;
        if (fault != 0) {
            return NOTHING - fault;
        }
        rules[ruleCount] = ruleReader.made();
        ruleCount++;
        return ruleCount - 1;
    }

    public int force(int rule) {
        if (!within(rule, NONE, ruleCount - 1)) {
            return NOTHING;
        }
        int was = now.inForce;
        now.inForce = rule;
        return was;
    }

    // ---- what is there -----------------------------------------------------------------------

    public int ring(int ring, int what) {
        if (!now.field.hasRing(ring)) {
            return NONE;
        }
        switch (what) {
            case 0: return now.field.cells[Field.PLACE + ring];
            case 1: return now.field.cells[Field.EASES + ring];
            case 2: return now.field.cells[Field.STUCK + ring];
            default: return NONE;
        }
    }

    public int archer(int archer, int what) {
        if (!now.field.hasArcher(archer)) {
            return NONE;
        }
        switch (what) {
            case 0: return now.field.cells[Field.OWN + archer];
            case 1: return now.field.cells[Field.SKILL + archer];
            case 2: return now.field.cells[Field.AWAY + archer];
            case 3: return now.field.cells[Field.ILL + archer];
            case 4: return now.field.cells[Field.ARROWS + archer];
            default: return NONE;
        }
    }

    public int wind(int shot) {
        return within(shot, 0, now.field.cells[Field.WINDS] - 1) ? now.field.windOf(shot) : NONE;
    }

    public int count(int what) {
        switch (what) {
            case 0: return now.field.cells[Field.LONG];
            case 1: return now.field.cells[Field.QUIVER];
            case 2: return now.field.cells[Field.WINDS];
            case 3: return now.field.cells[Field.RINGS];
            case 4: return now.field.cells[Field.ARCHERS];
            case 5: return ruleCount;
            case 6: return now.inForce;
            case 7: return now.field.cells[Field.ROUND];
            case 8: return now.field.cells[Field.SHOT];
            case 9: return now.field.sumOfArchers(Field.ILL);
            case 10: return now.field.sumOfArchers(Field.ARROWS);
            case 11: return now.field.cells[Field.HEDGE];
            case 12: return now.notes.size;
            case 13: return acts.size;
            case 14: return now.x;
            case 15: return tape.length;
            default: return NONE;
        }
    }

    // ---- acts --------------------------------------------------------------------------------

    public int round() {
        if (!now.field.isTold() || now.field.cells[Field.ROUND] >= LAST_ROUND) {
            return NONE;
        }
        acts.keep(now.field);
        play.startFrom(now.field, ruleInForce());
        int hits = play.playRound();
        now.field.copyFrom(play.field);
        return hits;
    }

    public int shoot(int archer, int ring) {
        Field field = now.field;
        if (!field.hasArcher(archer) || !field.hasRing(ring) || field.cells[Field.ARROWS + archer] < 1) {
            return NONE;
        }
        acts.keep(field);
        return placeOrHedge(field.loose(archer, ring, field.windOf(field.cells[Field.SHOT])));
    }

    public int pull(int ring, int archer) {
        Field field = now.field;
        if (!field.hasRing(ring) || !field.hasArcher(archer) || field.cells[Field.STUCK + ring] < 1) {
            return NONE;
        }
        acts.keep(field);
        int arrows = Math.min(MOST_ARROWS, field.cells[Field.ARROWS + archer] + field.cells[Field.STUCK + ring]);
        field.cells[Field.STUCK + ring] = 0;
        field.cells[Field.ARROWS + archer] = arrows;
        return arrows;
    }

    public int breath(int shots) {
        Field field = now.field;
        if (!field.isTold() || !within(shots, 1, 20)) {
            return NONE;
        }
        acts.keep(field);
        field.cells[Field.SHOT] += shots;
        return field.cells[Field.SHOT];
    }

    public int teach(int archer, int skill) {
        Field field = now.field;
        if (!field.hasArcher(archer) || !within(skill, 1, MOST_SKILL)) {
            return NONE;
        }
        int was = field.cells[Field.SKILL + archer];
        if (was == skill) {
            return NONE;
        }
        acts.keep(field);
        field.cells[Field.SKILL + archer] = skill;
        return was;
    }

    public int undo() {
        if (acts.size < 1) {
            return NONE;
        }
        acts.takeBack(now.field);
        return acts.size;
    }

    // ---- what is asked -----------------------------------------------------------------------

    public int ahead(int archer, int n, int what) {
        boolean asksHedge = what == 2;
        if (!now.field.isTold() || !within(n, 0, 100) || !within(what, 0, 2)) {
            return NONE;
        }
        if (!asksHedge && !now.field.hasArcher(archer)) {
            return NONE;
        }
        play.startFrom(now.field, ruleInForce());
        play.playRounds(n);
        if (asksHedge) {
            return play.field.cells[Field.HEDGE];
        }
        return play.field.cells[(what == 0 ? Field.ILL : Field.ARROWS) + archer];
    }

    public int eased(int archer) {
        if (!now.field.hasArcher(archer)) {
            return NONE;
        }
        play.startFrom(now.field, ruleInForce());
        return forecast.firstWell(play, archer, archer);
    }

    public int allEased() {
        if (!now.field.isTold()) {
            return NONE;
        }
        play.startFrom(now.field, ruleInForce());
        return forecast.firstWell(play, 0, now.field.cells[Field.ARCHERS] - 1);
    }

    public int down(int archer, int ring) {
        Field field = now.field;
        if (!field.hasArcher(archer) || !field.hasRing(ring)) {
            return NONE;
        }
        return placeOrHedge(field.landing(archer, ring, field.windOf(field.cells[Field.SHOT])));
    }

    public int bestAim(int archer, int what) {
        Field field = now.field;
        if (!field.hasArcher(archer) || !within(what, 0, 1)) {
            return NOTHING;
        }
        int own = field.cells[Field.OWN + archer];
        int much = Math.min(field.cells[Field.ILL + archer], field.cells[Field.EASES + own]);
        int which = field.ringThatHitsOwn(archer, field.cells[Field.SHOT]);
        if (which == NONE || much < 1) {
            return what == 0 ? NONE : 0;
        }
        return what == 0 ? which : much;
    }

    public int row(int archer, int n, int what) {
        if (!now.field.hasArcher(archer) || !within(n, 1, 5) || !within(what, 0, 5)) {
            return REFUSED;
        }
        if (now.field.cells[Field.ARROWS + archer] < 1) {
            return REFUSED;
        }
        return what > n ? NOTHING : forecast.bestRow(now.field, archer, n, what);
    }

    public int hold(int archer) {
        Field field = now.field;
        if (!field.hasArcher(archer)) {
            return NONE;
        }
        int shot = field.cells[Field.SHOT];
        for (int shots = 0; shots <= 60; shots++) {
            if (field.drift(archer, field.windOf(shot + shots)) == 0) {
                return shots;
            }
        }
        return NOTHING;
    }

    public int leastSkill(int archer, int n) {
        if (!now.field.hasArcher(archer) || !within(n, 1, 40)) {
            return NONE;
        }
        for (int skill = 1; skill <= MOST_SKILL; skill++) {
            play.startFrom(now.field, ruleInForce());
            play.field.cells[Field.SKILL + archer] = skill;
            play.playRounds(n);
            if (play.field.cells[Field.ILL + archer] == 0) {
                return skill;
            }
        }
        return NOTHING;
    }

    public int set(int ring, int n, int what) {
        if (!now.field.hasRing(ring) || !within(n, 1, 40) || !within(what, 0, 1)) {
            return NONE;
        }
        forecast.findPlace(play, now.field, ruleInForce(), ring, n);
        return what == 0 ? forecast.which : forecast.much;
    }

    public int given(int n, int what) {
        if (!now.field.isTold() || !within(n, 1, 40) || !within(what, 0, 1)) {
            return NOTHING;
        }
        forecast.findHeir(play, now.field, ruleInForce(), n);
        return what == 0 ? forecast.which : forecast.much;
    }

    public int rests(int one, int other, int n, int what) {
        if (!now.field.hasArcher(one) || !now.field.hasArcher(other) || one == other) {
            return NONE;
        }
        if (!within(n, 1, 20) || !within(what, 0, 2)) {
            return NONE;
        }
        forecast.weighRings(play, now.field, ruleInForce(), one, other, n);
        return forecast.restsOf(now.field.cells[Field.RINGS], what);
    }

    public int pence(int much, int ring) {
        if (!within(much, 0, 9999) || !now.field.hasRing(ring)) {
            return NONE;
        }
        return forecast.penceOf(now.field, much, ring);
    }

    // ---- notes -------------------------------------------------------------------------------

    public int note(int n, int archer, int place) {
        if (n == NONE) {
            now.notes.size = 0;
            return 0;
        }
        boolean known = within(place, NONE, now.field.cells[Field.LONG] - 1) || place == NOT_SHOT;
        if (!within(n, 0, LAST_NOTED) || !now.field.hasArcher(archer) || !known || now.notes.isFull()) {
            return NOTHING;
        }
        now.notes.add(n, archer, place);
        return now.notes.size;
    }

    public int skilled(int archer) {
        if (!now.field.hasArcher(archer)) {
            return NONE;
        }
        return study.numbersThatFit(play, now, ruleInForce(), Field.SKILL + archer, 1, MOST_SKILL);
    }

    public int ails(int archer) {
        if (!now.field.hasArcher(archer)) {
            return NONE;
        }
        int lastRing = now.field.cells[Field.RINGS] - 1;
        return study.numbersThatFit(play, now, ruleInForce(), Field.OWN + archer, 0, lastRing);
    }

    public int ruled(int what) {
        if (!now.field.isTold() || !within(what, 0, 1)) {
            return REFUSED;
        }
        study.lookAhead(play, now, rules, ruleCount, NONE);
        if (what == 0) {
            return study.fitting;
        }
        return study.fitting == 0 ? NOTHING : study.firstFitting;
    }

    public int look(int n, int what) {
        if (!now.field.isTold() || !within(n, 0, LAST_NOTED) || !within(what, 0, 1)) {
            return NONE;
        }
        study.lookAhead(play, now, rules, ruleCount, n);
        int archers = now.field.cells[Field.ARCHERS];
        if (study.fitting == 0 || archers == 0) {
            return NOTHING;
        }
        int who = study.bestParted(archers);
        return what == 0 ? who : study.mostAlike(who);
    }

    // ---- draws and images --------------------------------------------------------------------

    public int seed(int x) {
        if (x < 0) {
            return NONE;
        }
        int was = now.x;
        now.x = x;
        return was;
    }

    public int gusts(int m, int n, int p, int what) {
        if (!now.field.isTold() || !within(m, 1, 10) || !within(n, 1, 40)) {
            return NONE;
        }
        if (!within(p, 0, 100) || !within(what, 0, 1)) {
            return NONE;
        }
        forecast.drawnFrom = now.x;
        int eased = 0;
        int hedged = 0;
        for (int time = 0; time < m; time++) {
            play.startFrom(now.field, ruleInForce());
            forecast.blowRounds(play, n, p);
            eased += forecast.easedSince(now.field, play.field);
            hedged += play.field.cells[Field.HEDGE];
        }
        return what == 0 ? eased : hedged;
    }

    public int image(int k) {
        if (!within(k, 0, MOST_IMAGES - 1)) {
            return NONE;
        }
        images[k].copyFrom(now);
        images[k].isMade = true;
        return now.field.cells[Field.ROUND];
    }

    public int back(int k) {
        if (!within(k, 0, MOST_IMAGES - 1) || !images[k].isMade) {
            return NONE;
        }
        now.copyFrom(images[k]);
        acts.size = 0;
        return now.field.cells[Field.ROUND];
    }

    // ---- helpers -----------------------------------------------------------------------------

    private static boolean within(int number, int least, int most) {
        return number >= least && number <= most;
    }

    private static int placeOrHedge(int place) {
        return place == NONE ? NOTHING : place;
    }

    private Rule ruleInForce() {
        return within(now.inForce, 0, MOST_RULES - 1) ? rules[now.inForce] : null;
    }

    /** A green and all that lies on it, in one row of numbers: one copy takes it whole. */
    private static final class Field {
        static final int LONG = 0;
        static final int QUIVER = 1;
        static final int WINDS = 2;
        static final int RINGS = 3;
        static final int ARCHERS = 4;
        static final int ROUND = 5;
        static final int SHOT = 6;
        static final int HEDGE = 7;
        /** From here on a number for each wind, then for each ring, then for each archer. */
        static final int WIND = 8;
        static final int PLACE = WIND + MOST_WINDS;
        static final int EASES = PLACE + MOST_RINGS;
        static final int STUCK = EASES + MOST_RINGS;
        static final int OWN = STUCK + MOST_RINGS;
        static final int SKILL = OWN + MOST_ARCHERS;
        static final int AWAY = SKILL + MOST_ARCHERS;
        static final int ILL = AWAY + MOST_ARCHERS;
        static final int ARROWS = ILL + MOST_ARCHERS;
        static final int SIZE = ARROWS + MOST_ARCHERS;

        final int[] cells = new int[SIZE];

        void copyFrom(Field other) {
            System.arraycopy(other.cells, 0, cells, 0, SIZE);
        }

        void clear() {
            Arrays.fill(cells, 0);
        }

        /** Every green that was told is 3 long at least. */
        boolean isTold() {
            return cells[LONG] > 0;
        }

        boolean hasRing(int ring) {
            return within(ring, 0, cells[RINGS] - 1);
        }

        boolean hasArcher(int archer) {
            return within(archer, 0, cells[ARCHERS] - 1);
        }

        int windOf(int shot) {
            int winds = cells[WINDS];
            return winds < 1 || shot < 0 ? STILL_AIR : cells[WIND + shot % winds];
        }

        int drift(int archer, int wind) {
            int skill = cells[SKILL + archer];
            return skill < 1 ? 0 : (wind - STILL_AIR) * cells[AWAY + archer] / skill;
        }

        /** The place at which an arrow comes down; NONE: in the hedge. */
        int landing(int archer, int ring, int wind) {
            int place = cells[PLACE + ring] + drift(archer, wind);
            return within(place, 0, cells[LONG] - 1) ? place : NONE;
        }

        int ringAt(int place) {
            for (int ring = 0; ring < cells[RINGS]; ring++) {
                if (cells[PLACE + ring] == place) {
                    return ring;
                }
            }
            return NONE;
        }

        /** No two rings share a place, so one ring at most makes a shot hit the archer's own. */
        int ringThatHitsOwn(int archer, int shot) {
            int own = cells[OWN + archer];
            return ringAt(cells[PLACE + own] - drift(archer, windOf(shot)));
        }

        /** An arrow flies: the place at which it comes down; NONE: in the hedge. */
        int loose(int archer, int ring, int wind) {
            int place = landing(archer, ring, wind);
            int hit = ringAt(place);
            cells[ARROWS + archer]--;
            cells[SHOT]++;
            if (place == NONE) {
                cells[HEDGE]++;
            } else if (hit != NONE) {
                cells[STUCK + hit]++;
                if (hit == cells[OWN + archer]) {
                    cells[ILL + archer] = Math.max(0, cells[ILL + archer] - cells[EASES + hit]);
                }
            }
            return place;
        }

        int sumOfArchers(int part) {
            int sum = 0;
            for (int archer = 0; archer < cells[ARCHERS]; archer++) {
                sum += cells[part + archer];
            }
            return sum;
        }
    }

    /** What was noted of rounds from the begin on. */
    private static final class Notes {
        static final int MOST = 10;

        final int[] rounds = new int[MOST];
        final int[] archers = new int[MOST];
        final int[] places = new int[MOST];
        int size = 0;

        void copyFrom(Notes other) {
            System.arraycopy(other.rounds, 0, rounds, 0, MOST);
            System.arraycopy(other.archers, 0, archers, 0, MOST);
            System.arraycopy(other.places, 0, places, 0, MOST);
            size = other.size;
        }

        boolean isFull() {
            return size >= MOST;
        }

        void add(int round, int archer, int place) {
            if (!isFull()) {
                rounds[size] = round;
                archers[size] = archer;
                places[size] = place;
                size++;
            }
        }

        /** NONE without notes. */
        int lastRound() {
            int last = NONE;
            for (int i = 0; i < size; i++) {
                last = Math.max(last, rounds[i]);
            }
            return last;
        }

        boolean agree(int round, int[] came) {
            for (int i = 0; i < size; i++) {
                if (rounds[i] == round && came[archers[i]] != places[i]) {
                    return false;
                }
            }
            return true;
        }
    }

    /** All that an image takes: everything but the tape and the rules. */
    private static final class Moment {
        final Field field = new Field();
        /** The green as its text told it, whatever was done since. */
        final Field begin = new Field();
        final Notes notes = new Notes();
        int inForce = NONE;
        int x = 0;
        boolean isMade = false;

        void copyFrom(Moment other) {
            field.copyFrom(other.field);
            begin.copyFrom(other.begin);
            notes.copyFrom(other.notes);
            inForce = other.inForce;
            x = other.x;
        }
    }

    /** How the field was ahead of each of the last acts, in rows that come round. */
    private static final class Acts {
        static final int MOST = 20;

        final int[][] rows = new int[MOST][Field.SIZE];
        int next = 0;
        int size = 0;

        void keep(Field field) {
            System.arraycopy(field.cells, 0, rows[next], 0, Field.SIZE);
            next = (next + 1) % MOST;
            size = Math.min(MOST, size + 1);
        }

        void takeBack(Field field) {
            if (size > 0) {
                next = (next + MOST - 1) % MOST;
                size--;
                System.arraycopy(rows[next], 0, field.cells, 0, Field.SIZE);
            }
        }
    }

    /** The bytes that were fed, the tokens that they make, and how far these have been read. */
    private static final class Tape {
        static final int MOST = 400;
        static final int MOST_DIGITS = 5;
        static final int BLANK = 32;

        /** Kinds of tokens. */
        static final int END = 0;
        static final int NUMBER = 1;
        static final int LONG_NUMBER = 2;
        static final int WORD = 3;
        static final int SIGN = 4;
        static final int UNKNOWN = 5;

        /** The words of sums stand first, in the order of the numbers that Rule gives them. */
        static final String NAMES =
            "archer ring own place eases stuck skill away ill arrows wind drift round green aim if or and not";
        static final int GREEN = 13;
        static final int AIM = 14;
        static final int IF = 15;
        static final int OR = 16;
        static final int AND = 17;
        static final int NOT = 18;

        /** A sign's value is its byte, and this more where a second byte, =, belongs to it. */
        static final int OR_EQUAL = 256;

        /** Kinds of faults. */
        static final int MISPLACED = 0;
        static final int BAD_NUMBER = 1;
        static final int TOO_DEEP = 2;
        static final int PART_TOO_MANY = 3;
        static final int BAD_CLAUSE = 4;

        final int[] bytes = new int[MOST];
        int length = 0;
        final int[] kinds = new int[MOST + 1];
        final int[] values = new int[MOST + 1];
        final int[] places = new int[MOST + 1];
        int tokens = 0;
        /** The token that is read next. */
        int at = 0;
        int kind = END;
        int value = 0;
        int place = 0;
        /** 0: none so far. */
        int fault = 0;

        boolean hasRoom(int more) {
            return length + more <= MOST;
        }

        void addBytes(int four) {
            for (int shift = 24; shift >= 0 && length < MOST; shift -= 8) {
                bytes[length] = (four >>> shift) & 255;
                length++;
            }
        }

        /** Makes the tokens, of which the end is the last, and begins to read at the first. */
        void open() {
            tokens = 0;
            int from = 0;
            for (int i = 0; i < MOST && from < length; i++) {
                from = bytes[from] == BLANK ? from + 1 : scanToken(from);
            }
            addToken(END, 0, length);
            fault = 0;
            at = NONE;
            advance();
        }

        void advance() {
            if (at + 1 < tokens) {
                at++;
                kind = kinds[at];
                value = values[at];
                place = places[at];
            }
        }

        boolean isSign(int sign) {
            return kind == SIGN && value == sign;
        }

        boolean isWord(int word) {
            return kind == WORD && value == word;
        }

        /** Behind a clause: only another one or the end can stand there. */
        boolean hasNextClause() {
            boolean goesOn = isSign(';');
            if (goesOn) {
                advance();
            } else if (kind != END) {
                failAt(place, MISPLACED);
            }
            return goesOn && fault == 0;
        }

        /** Texts are read along, so the first fault that is found is the one to tell. */
        void failAt(int where, int how) {
            if (fault == 0) {
                fault = 1 + 8 * where + how;
            }
        }

        /** Where the token that begins there has its end: one byte on at least. */
        private int scanToken(int from) {
            if (isDigit(from)) {
                return scanNumber(from);
            }
            if (isLetter(from)) {
                return scanWord(from);
            }
            int sign = bytes[from];
            boolean compares = sign == '<' || sign == '>';
            if (compares && from + 1 < length && bytes[from + 1] == '=') {
                addToken(SIGN, OR_EQUAL + sign, from);
                return from + 2;
            }
            addToken(SIGN, sign, from);
            return from + 1;
        }

        private int scanNumber(int from) {
            int to = from;
            int number = 0;
            while (to < length && isDigit(to)) {
                if (to - from < MOST_DIGITS) {
                    number = number * 10 + bytes[to] - '0';
                }
                to++;
            }
            addToken(to - from > MOST_DIGITS ? LONG_NUMBER : NUMBER, number, from);
            return to;
        }

        private int scanWord(int from) {
            int to = from;
            while (to < length && isLetter(to)) {
                to++;
            }
            int word = wordOf(from, to);
            addToken(word == NONE ? UNKNOWN : WORD, word, from);
            return to;
        }

        private int wordOf(int from, int to) {
            int word = 0;
            int start = 0;
            for (int i = 0; i <= NAMES.length(); i++) {
                if (i == NAMES.length() || NAMES.charAt(i) == ' ') {
                    if (i - start == to - from && isNamed(from, start, i - start)) {
                        return word;
                    }
                    word++;
                    start = i + 1;
                }
            }
            return NONE;
        }

        private boolean isNamed(int from, int start, int size) {
            for (int i = 0; i < size; i++) {
                if (bytes[from + i] != NAMES.charAt(start + i)) {
                    return false;
                }
            }
            return true;
        }

        private boolean isDigit(int where) {
            return bytes[where] >= '0' && bytes[where] <= '9';
        }

        private boolean isLetter(int where) {
            return bytes[where] >= 'a' && bytes[where] <= 'z';
        }

        private void addToken(int what, int worth, int where) {
            if (tokens <= MOST) {
                kinds[tokens] = what;
                values[tokens] = worth;
                places[tokens] = where;
                tokens++;
            }
        }
    }

    /** Reads the text of a green. */
    private static final class GreenReader {
        static final int MOST_CLAUSES = 40;

        /** The green as far as it was read; whole if there was no fault. */
        final Field draft = new Field();

        /** The text's fault; 0: it has none. */
        int readFrom(Tape tape) {
            tape.open();
            draft.clear();
            int told = 0;
            do {
                readClause(tape, told);
                told++;
            } while (told <= Tape.MOST && tape.hasNextClause());
            if (tape.fault == 0) {
                complete();
            }
            return tape.fault;
        }

        private void readClause(Tape tape, int told) {
            int word = tape.kind == Tape.WORD ? tape.value : NONE;
            if (!opensClause(word)) {
                tape.failAt(tape.place, Tape.MISPLACED);
            } else if (told >= MOST_CLAUSES || (word == Tape.GREEN) != (told == 0) || isFullOf(word)) {
                tape.failAt(tape.place, Tape.BAD_CLAUSE);
            } else {
                tape.advance();
                readNumbers(tape, word);
            }
        }

        private static boolean opensClause(int word) {
            return word == Tape.GREEN || word == Rule.WIND || word == Rule.RING || word == Rule.ARCHER;
        }

        private boolean isFullOf(int word) {
            switch (word) {
                case Rule.WIND: return draft.cells[Field.WINDS] >= MOST_WINDS;
                case Rule.RING: return draft.cells[Field.RINGS] >= MOST_RINGS;
                case Rule.ARCHER: return draft.cells[Field.ARCHERS] >= MOST_ARCHERS;
                default: return false;
            }
        }

        /** A fault on the way leaves the draft half told, which does no harm: nobody takes it then. */
        private void readNumbers(Tape tape, int word) {
            int[] cells = draft.cells;
            if (word == Tape.GREEN) {
                cells[Field.LONG] = readNumber(tape, 3, 20);
                cells[Field.QUIVER] = readNumber(tape, 0, 20);
            } else if (word == Rule.WIND) {
                cells[Field.WIND + cells[Field.WINDS]] = readNumber(tape, 0, 8);
                cells[Field.WINDS]++;
            } else if (word == Rule.RING) {
                int ring = cells[Field.RINGS];
                cells[Field.PLACE + ring] = readFreePlace(tape);
                cells[Field.EASES + ring] = readNumber(tape, 1, 9);
                cells[Field.RINGS]++;
            } else {
                int archer = cells[Field.ARCHERS];
                cells[Field.OWN + archer] = readNumber(tape, 0, cells[Field.RINGS] - 1);
                cells[Field.SKILL + archer] = readNumber(tape, 1, MOST_SKILL);
                cells[Field.AWAY + archer] = readNumber(tape, 1, 9);
                cells[Field.ILL + archer] = readNumber(tape, 0, 30);
                cells[Field.ARCHERS]++;
            }
        }

        private int readFreePlace(Tape tape) {
            int where = tape.place;
            int place = readNumber(tape, 0, draft.cells[Field.LONG] - 1);
            if (draft.ringAt(place) != NONE) {
                tape.failAt(where, Tape.BAD_NUMBER);
            }
            return place;
        }

        private int readNumber(Tape tape, int least, int most) {
            int number = tape.value;
            if (tape.kind == Tape.LONG_NUMBER) {
                tape.failAt(tape.place, Tape.BAD_NUMBER);
            } else if (tape.kind != Tape.NUMBER) {
                tape.failAt(tape.place, Tape.MISPLACED);
            } else if (!within(number, least, most)) {
                tape.failAt(tape.place, Tape.BAD_NUMBER);
            } else {
                tape.advance();
            }
            return number;
        }

        private void complete() {
            int[] cells = draft.cells;
            if (cells[Field.WINDS] == 0) {
                cells[Field.WINDS] = 1;
                cells[Field.WIND] = STILL_AIR;
            }
            for (int archer = 0; archer < cells[Field.ARCHERS]; archer++) {
                cells[Field.ARROWS + archer] = cells[Field.QUIVER];
            }
        }
    }

    /** Reads the text of a rule into the steps of a Rule. */
    private static final class RuleReader {
        static final int MOST_CLAUSES = 12;
        static final int MOST_DEEP = 10;
        static final int MOST_PARTS = 60;
        /** Each token makes one step at most, and each clause one more. */
        static final int MOST_STEPS = Tape.MOST + MOST_CLAUSES;

        final int[] steps = new int[MOST_STEPS];
        int size = 0;
        /** Values and facts made of a sign. */
        int parts = 0;

        /** The text's fault; 0: it has none. */
        int readFrom(Tape tape) {
            tape.open();
            size = 0;
            parts = 0;
            int told = 0;
            do {
                readClause(tape, told);
                told++;
            } while (told <= Tape.MOST && tape.hasNextClause());
            return tape.fault;
        }

        Rule made() {
            return new Rule(Arrays.copyOf(steps, size));
        }

        private void readClause(Tape tape, int told) {
            if (!tape.isWord(Tape.AIM)) {
                tape.failAt(tape.place, Tape.MISPLACED);
                return;
            }
            if (told >= MOST_CLAUSES) {
                tape.failAt(tape.place, Tape.BAD_CLAUSE);
                return;
            }
            tape.advance();
            readSum(tape);
            if (tape.fault == 0 && tape.isWord(Tape.IF)) {
                tape.advance();
                readTest(tape, 0);
                addStep(Rule.ANSWER_IF, 0);
            } else {
                addStep(Rule.ANSWER, 0);
            }
        }

        /** A step of or waits until the part behind it has been read. */
        private void readTest(Tape tape, int depth) {
            boolean isWaiting = false;
            readFact(tape, depth);
            for (int i = 0; i < Tape.MOST && tape.fault == 0; i++) {
                if (tape.isWord(Tape.AND)) {
                    tape.advance();
                    readFact(tape, depth);
                    addStep(Rule.BOTH, 0);
                } else if (tape.isWord(Tape.OR)) {
                    tape.advance();
                    if (isWaiting) {
                        addStep(Rule.EITHER, 0);
                    }
                    isWaiting = true;
                    readFact(tape, depth);
                } else {
                    break;
                }
            }
            if (isWaiting) {
                addStep(Rule.EITHER, 0);
            }
        }

        private void readFact(Tape tape, int depth) {
            boolean isNot = tape.isWord(Tape.NOT);
            if (!isNot && !tape.isSign('[')) {
                readSum(tape);
                int step = readComparison(tape);
                readSum(tape);
                addStep(step, 0);
            } else if (depth >= MOST_DEEP) {
                tape.failAt(tape.place, Tape.TOO_DEEP);
            } else if (isNot) {
                tape.advance();
                readFact(tape, depth + 1);
                addStep(Rule.OPPOSITE, 0);
            } else {
                tape.advance();
                readTest(tape, depth + 1);
                if (!tape.isSign(']')) {
                    tape.failAt(tape.place, Tape.MISPLACED);
                }
                tape.advance();
            }
        }

        /** The step that the sign between two sums makes. */
        private int readComparison(Tape tape) {
            int step = comparisonOf(tape);
            if (step == NONE) {
                tape.failAt(tape.place, Tape.MISPLACED);
            } else if (parts >= MOST_PARTS) {
                tape.failAt(tape.place, Tape.PART_TOO_MANY);
            }
            parts++;
            tape.advance();
            return step;
        }

        private static int comparisonOf(Tape tape) {
            if (tape.kind != Tape.SIGN) {
                return NONE;
            }
            switch (tape.value) {
                case '<': return Rule.BELOW;
                case '<' + Tape.OR_EQUAL: return Rule.AT_MOST;
                case '=': return Rule.EQUAL;
                case '>' + Tape.OR_EQUAL: return Rule.AT_LEAST;
                case '>': return Rule.ABOVE;
                default: return NONE;
            }
        }

        /** A step of + or - waits until the term behind it has been read. */
        private void readSum(Tape tape) {
            int waiting = NONE;
            readValue(tape);
            for (int i = 0; i < Tape.MOST && tape.fault == 0; i++) {
                int step = reckoningOf(tape);
                if (step == NONE) {
                    break;
                }
                tape.advance();
                if (step == Rule.PLUS || step == Rule.MINUS) {
                    if (waiting != NONE) {
                        addStep(waiting, 0);
                    }
                    waiting = step;
                    readValue(tape);
                } else {
                    readValue(tape);
                    addStep(step, 0);
                }
            }
            if (waiting != NONE) {
                addStep(waiting, 0);
            }
        }

        private static int reckoningOf(Tape tape) {
            if (tape.kind != Tape.SIGN) {
                return NONE;
            }
            switch (tape.value) {
                case '+': return Rule.PLUS;
                case '-': return Rule.MINUS;
                case '*': return Rule.TIMES;
                case '/': return Rule.PARTED;
                case '%': return Rule.REST;
                default: return NONE;
            }
        }

        private void readValue(Tape tape) {
            boolean isNumber = tape.kind == Tape.NUMBER;
            boolean isWord = tape.kind == Tape.WORD && tape.value < Rule.WORDS;
            if (tape.kind == Tape.LONG_NUMBER) {
                tape.failAt(tape.place, Tape.BAD_NUMBER);
            } else if (!isNumber && !isWord) {
                tape.failAt(tape.place, Tape.MISPLACED);
            } else if (parts >= MOST_PARTS) {
                tape.failAt(tape.place, Tape.PART_TOO_MANY);
            } else {
                parts++;
                addStep(isNumber ? Rule.NUMBER : Rule.WORD, tape.value);
                tape.advance();
            }
        }

        private void addStep(int what, int with) {
            if (size < MOST_STEPS) {
                steps[size] = what + Rule.KINDS * with;
                size++;
            }
        }
    }

    /** A rule as steps over a stack: each clause leaves its sum there, then its test. */
    private static final class Rule {
        /** The words of sums. */
        static final int ARCHER = 0;
        static final int RING = 1;
        static final int OWN = 2;
        static final int PLACE = 3;
        static final int EASES = 4;
        static final int STUCK = 5;
        static final int SKILL = 6;
        static final int AWAY = 7;
        static final int ILL = 8;
        static final int ARROWS = 9;
        static final int WIND = 10;
        static final int DRIFT = 11;
        static final int ROUND = 12;
        static final int WORDS = 13;

        /** Kinds of steps; a step is its kind and KINDS times the number or word that it puts. */
        static final int NUMBER = 0;
        static final int WORD = 1;
        static final int OPPOSITE = 2;
        static final int ANSWER = 3;
        static final int ANSWER_IF = 4;
        static final int PLUS = 5;
        static final int MINUS = 6;
        static final int TIMES = 7;
        static final int PARTED = 8;
        static final int REST = 9;
        static final int BELOW = 10;
        static final int AT_MOST = 11;
        static final int EQUAL = 12;
        static final int AT_LEAST = 13;
        static final int ABOVE = 14;
        static final int BOTH = 15;
        static final int EITHER = 16;
        static final int KINDS = 32;

        /** Far above what ten levels of brackets can put. */
        static final int STACK = 64;

        private final int[] steps;
        /** Whether the same field can make it answer otherwise in another round. */
        final boolean asksRound;

        Rule(int[] told) {
            steps = told;
            boolean asks = false;
            for (int i = 0; i < told.length; i++) {
                asks = asks || told[i] == WORD + KINDS * ROUND;
            }
            asksRound = asks;
        }

        /** The sum of the first clause that holds, or 0. */
        long worth(long[] words, long[] stack) {
            int top = 0;
            for (int i = 0; i < steps.length; i++) {
                int kind = steps[i] % KINDS;
                int with = steps[i] / KINDS;
                if (kind <= WORD) {
                    if (top >= stack.length || (kind == WORD && with >= words.length)) {
                        return 0;
                    }
                    stack[top] = kind == NUMBER ? with : words[with];
                    top++;
                } else if (top < 1 || (top < 2 && kind >= ANSWER_IF)) {
                    return 0;
                } else if (kind == OPPOSITE) {
                    stack[top - 1] = 1 - stack[top - 1];
                } else if (kind == ANSWER) {
                    return stack[top - 1];
                } else if (kind == ANSWER_IF) {
                    top -= 2;
                    if (stack[top + 1] != 0) {
                        return stack[top];
                    }
                } else {
                    top--;
                    stack[top - 1] = joined(kind, stack[top - 1], stack[top]);
                }
            }
            return 0;
        }

        private static long joined(int kind, long left, long right) {
            switch (kind) {
                case PLUS: return left + right;
                case MINUS: return left - right;
                case TIMES: return left * right;
                case PARTED: return right == 0 ? 0 : left / right;
                case REST: return right == 0 ? 0 : left % right;
                case BELOW: return left < right ? 1 : 0;
                case AT_MOST: return left <= right ? 1 : 0;
                case EQUAL: return left == right ? 1 : 0;
                case AT_LEAST: return left >= right ? 1 : 0;
                case ABOVE: return left > right ? 1 : 0;
                case BOTH: return left & right;
                default: return left | right;
            }
        }
    }

    /** Rounds on a field of its own, so that what is asked changes nothing. */
    private static final class Play {
        final Field field = new Field();
        /** What came of each archer's turn in the last round, as a note tells it. */
        final int[] came = new int[MOST_ARCHERS];
        /** The ring that an archer must aim at, whatever the rule says; NONE: as it says. */
        final int[] bound = new int[MOST_ARCHERS];
        /** The wind of all shots; NONE: those that come round. */
        int gust = NONE;
        /** Whether no further round can change anything but its number, nor what comes of it. */
        boolean isStill = false;
        private Rule rule = null;
        private final long[] words = new long[Rule.WORDS];
        private final long[] stack = new long[Rule.STACK];

        void startFrom(Field from, Rule by) {
            field.copyFrom(from);
            rule = by;
            gust = NONE;
            isStill = false;
            Arrays.fill(bound, NONE);
        }

        /** Who hits their own, as bits. */
        int playRound() {
            int[] cells = field.cells;
            int hits = 0;
            int shotsAhead = cells[Field.SHOT];
            for (int archer = 0; archer < cells[Field.ARCHERS]; archer++) {
                came[archer] = cells[Field.ARROWS + archer] > 0 ? takeTurn(archer) : NOT_SHOT;
                if (came[archer] == cells[Field.PLACE + cells[Field.OWN + archer]]) {
                    hits |= 1 << archer;
                }
            }
            cells[Field.ROUND]++;
            boolean asks = gust != NONE || (rule != null && rule.asksRound);
            isStill = cells[Field.SHOT] == shotsAhead && (!asks || field.sumOfArchers(Field.ARROWS) == 0);
            return hits;
        }

        void playRounds(int n) {
            for (int i = 0; i < n && !isStill; i++) {
                playRound();
            }
        }

        private int takeTurn(int archer) {
            int wind = gust == NONE ? field.windOf(field.cells[Field.SHOT]) : gust;
            int ring = bound[archer];
            if (ring == NONE) {
                ring = rule == null ? field.cells[Field.OWN + archer] : aimOf(archer, wind);
            }
            return ring == NONE ? NOT_SHOT : field.loose(archer, ring, wind);
        }

        private int aimOf(int archer, int wind) {
            int[] cells = field.cells;
            words[Rule.ARCHER] = archer;
            words[Rule.SKILL] = cells[Field.SKILL + archer];
            words[Rule.AWAY] = cells[Field.AWAY + archer];
            words[Rule.ILL] = cells[Field.ILL + archer];
            words[Rule.ARROWS] = cells[Field.ARROWS + archer];
            words[Rule.WIND] = wind;
            words[Rule.DRIFT] = field.drift(archer, wind);
            words[Rule.ROUND] = cells[Field.ROUND];
            int best = NONE;
            long most = 0;
            for (int ring = 0; ring < cells[Field.RINGS]; ring++) {
                words[Rule.RING] = ring;
                words[Rule.OWN] = ring == cells[Field.OWN + archer] ? 1 : 0;
                words[Rule.PLACE] = cells[Field.PLACE + ring];
                words[Rule.EASES] = cells[Field.EASES + ring];
                words[Rule.STUCK] = cells[Field.STUCK + ring];
                long worth = rule.worth(words, stack);
                if (worth > most) {
                    most = worth;
                    best = ring;
                }
            }
            return best;
        }
    }

    /** What is asked of how it goes on. */
    private static final class Forecast {
        static final int WELL_WITHIN = 200;

        /** What was found last, and how much all are eased by it. */
        int which = NONE;
        int much = 0;
        /** The x of the draws, which goes on through all afternoons of one question. */
        int drawnFrom = 0;
        /** What each of two archers has of each two rings. */
        private final int[] oneHas = new int[MOST_RINGS * MOST_RINGS];
        private final int[] otherHas = new int[MOST_RINGS * MOST_RINGS];

        /** The first round behind which these archers are ill no more. */
        int firstWell(Play play, int first, int last) {
            for (int i = 0; i < WELL_WITHIN; i++) {
                int round = play.field.cells[Field.ROUND];
                play.playRound();
                if (areWell(play.field, first, last)) {
                    return round;
                }
                if (play.isStill) {
                    return NOTHING;
                }
            }
            return NOTHING;
        }

        private static boolean areWell(Field field, int first, int last) {
            for (int archer = first; archer <= last; archer++) {
                if (field.cells[Field.ILL + archer] > 0) {
                    return false;
                }
            }
            return true;
        }

        /**
         * Only hits of their own ring ease, each by the same, so the best row has as many hits as
         * can be had and are needed, and to be the first it has them as late as it can.
         */
        int bestRow(Field field, int archer, int n, int what) {
            int shot = field.cells[Field.SHOT];
            int ill = field.cells[Field.ILL + archer];
            int eases = field.cells[Field.EASES + field.cells[Field.OWN + archer]];
            int needed = eases < 1 ? 0 : (ill + eases - 1) / eases;
            int left = Math.min(needed, field.cells[Field.ARROWS + archer]);
            int hits = 0;
            int asked = NONE;
            for (int i = n; i >= 1 && hits < left; i--) {
                int ring = field.ringThatHitsOwn(archer, shot + i - 1);
                if (ring != NONE) {
                    hits++;
                    asked = i == what ? ring : asked;
                }
            }
            return what == 0 ? Math.min(ill, hits * eases) : asked;
        }

        void findPlace(Play play, Field now, Rule rule, int ring, int n) {
            which = now.cells[Field.PLACE + ring];
            play.startFrom(now, rule);
            play.playRounds(n);
            much = easedSince(now, play.field);
            for (int place = 0; place < now.cells[Field.LONG]; place++) {
                if (now.ringAt(place) == NONE) {
                    play.startFrom(now, rule);
                    play.field.cells[Field.PLACE + ring] = place;
                    play.playRounds(n);
                    takeIfMore(place, easedSince(now, play.field));
                }
            }
        }

        void findHeir(Play play, Field now, Rule rule, int n) {
            int arrows = Math.min(MOST_ARROWS, now.sumOfArchers(Field.ARROWS));
            which = NONE;
            play.startFrom(now, rule);
            play.playRounds(n);
            much = easedSince(now, play.field);
            for (int heir = 0; heir < now.cells[Field.ARCHERS]; heir++) {
                play.startFrom(now, rule);
                for (int archer = 0; archer < now.cells[Field.ARCHERS]; archer++) {
                    play.field.cells[Field.ARROWS + archer] = archer == heir ? arrows : 0;
                }
                play.playRounds(n);
                takeIfMore(heir, easedSince(now, play.field));
            }
        }

        /** How much less ill all are, together. */
        int easedSince(Field now, Field then) {
            return now.sumOfArchers(Field.ILL) - then.sumOfArchers(Field.ILL);
        }

        private void takeIfMore(int candidate, int eased) {
            if (eased > much) {
                which = candidate;
                much = eased;
            }
        }

        /** What both have by each two rings. */
        void weighRings(Play play, Field now, Rule rule, int one, int other, int n) {
            int rings = now.cells[Field.RINGS];
            for (int pair = 0; pair < rings * rings; pair++) {
                play.startFrom(now, rule);
                play.bound[one] = pair / rings;
                play.bound[other] = pair % rings;
                play.playRounds(n);
                oneHas[pair] = gainOf(play.field, now, one);
                otherHas[pair] = gainOf(play.field, now, other);
            }
        }

        private static int gainOf(Field then, Field now, int archer) {
            int eased = now.cells[Field.ILL + archer] - then.cells[Field.ILL + archer];
            return eased + then.cells[Field.ARROWS + archer] / 2;
        }

        /** 0: how many; 1, 2: the rings of the first. */
        int restsOf(int rings, int what) {
            int found = 0;
            int first = NONE;
            for (int pair = 0; pair < rings * rings; pair++) {
                if (isRest(pair, rings)) {
                    first = found == 0 ? pair : first;
                    found++;
                }
            }
            if (what == 0) {
                return found;
            }
            if (first == NONE || rings < 1) {
                return NOTHING;
            }
            return what == 1 ? first / rings : first % rings;
        }

        private boolean isRest(int pair, int rings) {
            if (rings < 1) {
                return false;
            }
            int ofOther = pair % rings;
            int ofOne = pair / rings;
            for (int ring = 0; ring < rings; ring++) {
                boolean oneGains = oneHas[ring * rings + ofOther] > oneHas[pair];
                if (oneGains || otherHas[ofOne * rings + ring] > otherHas[pair]) {
                    return false;
                }
            }
            return true;
        }

        int penceOf(Field now, int pence, int ring) {
            int rings = now.cells[Field.RINGS];
            int stuck = 0;
            for (int i = 0; i < rings; i++) {
                stuck += now.cells[Field.STUCK + i];
            }
            if (stuck < 1) {
                return 0;
            }
            int lost = pence * now.cells[Field.STUCK + ring] % stuck;
            int left = pence;
            int ahead = 0;
            for (int i = 0; i < rings; i++) {
                int product = pence * now.cells[Field.STUCK + i];
                left -= product / stuck;
                boolean isAhead = product % stuck > lost || (product % stuck == lost && i < ring);
                ahead += isAhead ? 1 : 0;
            }
            return pence * now.cells[Field.STUCK + ring] / stuck + (ahead < left ? 1 : 0);
        }

        /** An afternoon: the draws go on even when nobody has arrows, for the next one's sake. */
        void blowRounds(Play play, int n, int p) {
            for (int i = 0; i < n; i++) {
                play.gust = drawn() % 100 < p ? drawn() % 9 : NONE;
                play.playRound();
            }
        }

        private int drawn() {
            drawnFrom = (int) ((drawnFrom * 1103515245L + 12345L) & 2147483647L);
            return drawnFrom / 65536;
        }
    }

    /** What can have been, by what was noted. */
    private static final class Study {
        /** How many rules, none among them, fit all notes, and which is the first of these. */
        int fitting = 0;
        int firstFitting = NONE;
        /** What comes of each archer's turn by each rule that fits. */
        private final int[][] came = new int[MOST_RULES + 1][MOST_ARCHERS];

        /** Numbers which, in one cell of the green as told, make all notes so: as bits. */
        int numbersThatFit(Play play, Moment now, Rule rule, int cell, int least, int most) {
            int bits = 0;
            for (int number = least; number <= most; number++) {
                play.startFrom(now.begin, rule);
                play.field.cells[cell] = number;
                if (fits(play, now.notes, NONE, came[0])) {
                    bits |= 1 << number;
                }
            }
            return bits;
        }

        /** Finds the rules that fit, and what comes of the turns of the round n (NONE: of none) by each. */
        void lookAhead(Play play, Moment now, Rule[] rules, int ruleCount, int n) {
            fitting = 0;
            firstFitting = NONE;
            for (int number = NONE; number < ruleCount && fitting < came.length; number++) {
                play.startFrom(now.begin, within(number, 0, rules.length - 1) ? rules[number] : null);
                if (fits(play, now.notes, n, came[fitting])) {
                    firstFitting = fitting == 0 ? number : firstFitting;
                    fitting++;
                }
            }
        }

        /** Whether all notes are so; what comes of the turns of the round n goes into a row. */
        private static boolean fits(Play play, Notes notes, int n, int[] row) {
            int last = Math.max(n, notes.lastRound());
            for (int round = 0; round <= last; round++) {
                if (!play.isStill) {
                    play.playRound();
                }
                if (!notes.agree(round, play.came)) {
                    return false;
                }
                if (round == n) {
                    System.arraycopy(play.came, 0, row, 0, MOST_ARCHERS);
                }
            }
            return true;
        }

        /** The archer whose turn parts the rules best. */
        int bestParted(int archers) {
            int best = 0;
            for (int archer = 1; archer < archers; archer++) {
                if (mostAlike(archer) < mostAlike(best)) {
                    best = archer;
                }
            }
            return best;
        }

        int mostAlike(int archer) {
            int most = 0;
            for (int i = 0; i < fitting; i++) {
                int alike = 0;
                for (int j = 0; j < fitting; j++) {
                    alike += came[i][archer] == came[j][archer] ? 1 : 0;
                }
                most = Math.max(most, alike);
            }
            return most;
        }
    }
}
