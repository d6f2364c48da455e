import java.util.ArrayList;
import java.util.HashMap;
import java.util.List;
import java.util.Map;

/**
 * The document once more, as plainly as it can be written and without a thought for speed: rows of
 * aims are all tried, rules are trees, states are copied whole. RandomTest holds the class against it.
 */
final class Oracle {
    static final class Ring {
        int place;
        int eases;
        int stuck;

        Ring copy() {
            Ring r = new Ring();
            r.place = place;
            r.eases = eases;
            r.stuck = stuck;
            return r;
        }
    }

    static final class Archer {
        int own;
        int skill;
        int away;
        int ill;
        int arrows;

        Archer copy() {
            Archer a = new Archer();
            a.own = own;
            a.skill = skill;
            a.away = away;
            a.ill = ill;
            a.arrows = arrows;
            return a;
        }
    }

    static final class State {
        int length;
        int quiver;
        List<Integer> winds = new ArrayList<>();
        List<Ring> rings = new ArrayList<>();
        List<Archer> archers = new ArrayList<>();
        int round;
        int shot;
        int hedge;

        State copy() {
            State s = new State();
            s.length = length;
            s.quiver = quiver;
            s.winds = new ArrayList<>(winds);
            for (Ring r : rings) {
                s.rings.add(r.copy());
            }
            for (Archer a : archers) {
                s.archers.add(a.copy());
            }
            s.round = round;
            s.shot = shot;
            s.hedge = hedge;
            return s;
        }

        int wind() {
            return winds.get(shot % winds.size());
        }

        int drift(int archer, int wind) {
            return (wind - 4) * archers.get(archer).away / archers.get(archer).skill;
        }

        /** -1: the hedge. */
        int place(int archer, int ring, int wind) {
            int place = rings.get(ring).place + drift(archer, wind);
            return place < 0 || place >= length ? -1 : place;
        }

        int shoot(int archer, int ring, int wind) {
            Archer a = archers.get(archer);
            int place = place(archer, ring, wind);
            a.arrows--;
            shot++;
            if (place == -1) {
                hedge++;
            }
            for (int r = 0; r < rings.size(); r++) {
                if (rings.get(r).place == place) {
                    rings.get(r).stuck++;
                    if (a.own == r) {
                        a.ill = Math.max(0, a.ill - rings.get(r).eases);
                    }
                }
            }
            return place;
        }

        int ill() {
            return archers.stream().mapToInt(a -> a.ill).sum();
        }

        int arrows() {
            return archers.stream().mapToInt(a -> a.arrows).sum();
        }
    }

    interface Node {
        long worth(Map<String, Long> words);
    }

    record Clause(Node sum, Node test) {
    }

    static final class Fault extends Exception {
        private static final long serialVersionUID = 1L;
        final int number;

        Fault(int place, int kind) {
            super("fault");
            number = 1 + 8 * place + kind;
        }
    }

    /** A reader that looks at bytes, not at tokens. */
    static final class Reader {
        static final List<String> WORDS = List.of("archer", "ring", "own", "place", "eases", "stuck", "skill",
            "away", "ill", "arrows", "wind", "drift", "round");
        final String text;
        int at = 0;
        int parts = 0;

        Reader(String text) {
            this.text = text;
            blanks();
        }

        void blanks() {
            while (at < text.length() && text.charAt(at) == ' ') {
                at++;
            }
        }

        String peekWord() {
            int to = at;
            while (to < text.length() && text.charAt(to) >= 'a' && text.charAt(to) <= 'z') {
                to++;
            }
            return text.substring(at, to);
        }

        String peekDigits() {
            int to = at;
            while (to < text.length() && text.charAt(to) >= '0' && text.charAt(to) <= '9') {
                to++;
            }
            return text.substring(at, to);
        }

        void take(String token) {
            at += token.length();
            blanks();
        }

        char sign() {
            return at < text.length() ? text.charAt(at) : 0;
        }

        boolean ended() {
            return at >= text.length();
        }

        int number(int least, int most) throws Fault {
            String digits = peekDigits();
            if (digits.isEmpty()) {
                throw new Fault(at, 0);
            }
            if (digits.length() > 5 || Integer.parseInt(digits) < least || Integer.parseInt(digits) > most) {
                throw new Fault(at, 1);
            }
            take(digits);
            return Integer.parseInt(digits);
        }

        State green() throws Fault {
            State s = new State();
            for (int clause = 0; ; clause++) {
                String word = peekWord();
                if (!List.of("green", "wind", "ring", "archer").contains(word)) {
                    throw new Fault(at, 0);
                }
                boolean full = word.equals("wind") && s.winds.size() == 12
                    || word.equals("ring") && s.rings.size() == 6
                    || word.equals("archer") && s.archers.size() == 5;
                if (clause == 40 || full || word.equals("green") == (clause > 0)) {
                    throw new Fault(at, 4);
                }
                take(word);
                greenClause(s, word);
                if (ended()) {
                    break;
                }
                if (sign() != ';') {
                    throw new Fault(at, 0);
                }
                take(";");
            }
            if (s.winds.isEmpty()) {
                s.winds.add(4);
            }
            for (Archer a : s.archers) {
                a.arrows = s.quiver;
            }
            return s;
        }

        private void greenClause(State s, String word) throws Fault {
            if (word.equals("green")) {
                s.length = number(3, 20);
                s.quiver = number(0, 20);
            } else if (word.equals("wind")) {
                s.winds.add(number(0, 8));
            } else if (word.equals("ring")) {
                Ring r = new Ring();
                int where = at;
                r.place = number(0, s.length - 1);
                for (Ring other : s.rings) {
                    if (other.place == r.place) {
                        throw new Fault(where, 1);
                    }
                }
                r.eases = number(1, 9);
                s.rings.add(r);
            } else {
                Archer a = new Archer();
                a.own = number(0, s.rings.size() - 1);
                a.skill = number(1, 9);
                a.away = number(1, 9);
                a.ill = number(0, 30);
                s.archers.add(a);
            }
        }

        List<Clause> rule() throws Fault {
            List<Clause> clauses = new ArrayList<>();
            while (true) {
                String word = peekWord();
                if (!word.equals("aim")) {
                    throw new Fault(at, 0);
                }
                if (clauses.size() == 12) {
                    throw new Fault(at, 4);
                }
                take(word);
                Node sum = sum();
                Node test = null;
                if (peekWord().equals("if")) {
                    take("if");
                    test = test(0);
                }
                clauses.add(new Clause(sum, test));
                if (ended()) {
                    return clauses;
                }
                if (sign() != ';') {
                    throw new Fault(at, 0);
                }
                take(";");
            }
        }

        private Node test(int depth) throws Fault {
            Node left = part(depth);
            while (peekWord().equals("or")) {
                take("or");
                Node first = left;
                Node second = part(depth);
                left = w -> first.worth(w) != 0 || second.worth(w) != 0 ? 1 : 0;
            }
            return left;
        }

        private Node part(int depth) throws Fault {
            Node left = fact(depth);
            while (peekWord().equals("and")) {
                take("and");
                Node first = left;
                Node second = fact(depth);
                left = w -> first.worth(w) != 0 && second.worth(w) != 0 ? 1 : 0;
            }
            return left;
        }

        private Node fact(int depth) throws Fault {
            if (peekWord().equals("not")) {
                if (depth == 10) {
                    throw new Fault(at, 2);
                }
                take("not");
                Node inner = fact(depth + 1);
                return w -> inner.worth(w) == 0 ? 1 : 0;
            }
            if (sign() == '[') {
                if (depth == 10) {
                    throw new Fault(at, 2);
                }
                take("[");
                Node inner = test(depth + 1);
                if (sign() != ']') {
                    throw new Fault(at, 0);
                }
                take("]");
                return inner;
            }
            Node left = sum();
            String sign = "";
            for (String s : List.of("<", ">", "=", "<=", ">=")) {
                if (text.startsWith(s, at)) {
                    sign = s;
                }
            }
            if (sign.isEmpty()) {
                throw new Fault(at, 0);
            }
            part();
            take(sign);
            Node right = sum();
            return compare(sign, left, right);
        }

        private static Node compare(String sign, Node left, Node right) {
            return w -> {
                int c = Long.compare(left.worth(w), right.worth(w));
                boolean holds = c < 0 && sign.startsWith("<") || c > 0 && sign.startsWith(">")
                    || c == 0 && sign.endsWith("=");
                return holds ? 1 : 0;
            };
        }

        private void part() throws Fault {
            if (parts == 60) {
                throw new Fault(at, 3);
            }
            parts++;
        }

        private Node sum() throws Fault {
            Node left = term();
            while (sign() == '+' || sign() == '-') {
                char op = sign();
                take("+");
                Node first = left;
                Node second = term();
                left = op == '+' ? w -> first.worth(w) + second.worth(w) : w -> first.worth(w) - second.worth(w);
            }
            return left;
        }

        private Node term() throws Fault {
            Node left = value();
            while (sign() == '*' || sign() == '/' || sign() == '%') {
                char op = sign();
                take("*");
                Node first = left;
                Node second = value();
                left = w -> {
                    long a = first.worth(w);
                    long b = second.worth(w);
                    return op == '*' ? a * b : b == 0 ? 0 : op == '/' ? a / b : a % b;
                };
            }
            return left;
        }

        private Node value() throws Fault {
            String digits = peekDigits();
            if (digits.length() > 5) {
                throw new Fault(at, 1);
            }
            if (!digits.isEmpty()) {
                part();
                take(digits);
                long n = Long.parseLong(digits);
                return w -> n;
            }
            String word = peekWord();
            if (!WORDS.contains(word)) {
                throw new Fault(at, 0);
            }
            part();
            take(word);
            return w -> w.get(word);
        }
    }

    record Note(int n, int archer, int place) {
    }

    static final class Moment {
        State now;
        State begin;
        int force = -1;
        int x;
        List<Note> notes = new ArrayList<>();

        Moment copy() {
            Moment m = new Moment();
            m.now = now == null ? null : now.copy();
            m.begin = begin == null ? null : begin.copy();
            m.force = force;
            m.x = x;
            m.notes = new ArrayList<>(notes);
            return m;
        }
    }

    private final StringBuilder tape = new StringBuilder();
    private final List<List<Clause>> rules = new ArrayList<>();
    private Moment m = new Moment();
    private final List<State> undo = new ArrayList<>();
    private final Moment[] images = new Moment[4];

    private List<Clause> inForce() {
        return m.force < 0 ? null : rules.get(m.force);
    }

    private boolean told() {
        return m.now != null;
    }

    private boolean archerIs(int a) {
        return told() && a >= 0 && a < m.now.archers.size();
    }

    private boolean ringIs(int r) {
        return told() && r >= 0 && r < m.now.rings.size();
    }

    private static boolean in(int n, int least, int most) {
        return n >= least && n <= most;
    }

    private void act() {
        undo.add(m.now.copy());
        if (undo.size() > 20) {
            undo.remove(0);
        }
    }

    static int aim(State s, List<Clause> rule, int archer, int wind) {
        Archer a = s.archers.get(archer);
        if (rule == null) {
            return a.own;
        }
        int best = -1;
        long most = 0;
        for (int r = 0; r < s.rings.size(); r++) {
            Ring ring = s.rings.get(r);
            Map<String, Long> w = new HashMap<>();
            w.put("archer", (long) archer);
            w.put("ring", (long) r);
            w.put("own", a.own == r ? 1L : 0L);
            w.put("place", (long) ring.place);
            w.put("eases", (long) ring.eases);
            w.put("stuck", (long) ring.stuck);
            w.put("skill", (long) a.skill);
            w.put("away", (long) a.away);
            w.put("ill", (long) a.ill);
            w.put("arrows", (long) a.arrows);
            w.put("wind", (long) wind);
            w.put("drift", (long) s.drift(archer, wind));
            w.put("round", (long) s.round);
            long worth = 0;
            for (Clause c : rule) {
                if (c.test() == null || c.test().worth(w) != 0) {
                    worth = c.sum().worth(w);
                    break;
                }
            }
            if (worth > most) {
                most = worth;
                best = r;
            }
        }
        return best;
    }

    /** What came of each turn, as notes tell it. */
    static int[] play(State s, List<Clause> rule, int gust, Map<Integer, Integer> bound) {
        int[] came = new int[s.archers.size()];
        for (int a = 0; a < came.length; a++) {
            came[a] = 99;
            if (s.archers.get(a).arrows > 0) {
                int wind = gust >= 0 ? gust : s.wind();
                int ring = bound.containsKey(a) ? bound.get(a) : aim(s, rule, a, wind);
                if (ring >= 0) {
                    came[a] = s.shoot(a, ring, wind);
                }
            }
        }
        s.round++;
        return came;
    }

    static State ahead(State from, List<Clause> rule, int n) {
        State s = from.copy();
        for (int i = 0; i < n; i++) {
            play(s, rule, -1, Map.of());
        }
        return s;
    }

    int feed(int... five) {
        if (tape.length() + 20 > 400) {
            return -1;
        }
        for (int n : five) {
            for (int i = 3; i >= 0; i--) {
                tape.append((char) (n >> 8 * i & 255));
            }
        }
        return tape.length();
    }

    int end(int n) {
        if (!in(n, 0, tape.length())) {
            return -1;
        }
        tape.setLength(n);
        return n;
    }

    int green() {
        try {
            State s = new Reader(tape.toString()).green();
            m.now = s;
            m.begin = s.copy();
            m.notes.clear();
            undo.clear();
            tape.setLength(0);
            return s.archers.size();
        } catch (Fault f) {
            return -2 - f.number;
        }
    }

    int rule() {
        if (rules.size() == 6) {
            return -1;
        }
        String text = tape.toString();
        tape.setLength(0);
        try {
            rules.add(new Reader(text).rule());
            return rules.size() - 1;
        } catch (Fault f) {
            return -2 - f.number;
        }
    }

    int force(int rule) {
        if (!in(rule, -1, rules.size() - 1)) {
            return -2;
        }
        int was = m.force;
        m.force = rule;
        return was;
    }

    int ring(int ring, int what) {
        if (!ringIs(ring) || !in(what, 0, 2)) {
            return -1;
        }
        Ring r = m.now.rings.get(ring);
        return new int[] {r.place, r.eases, r.stuck}[what];
    }

    int archer(int archer, int what) {
        if (!archerIs(archer) || !in(what, 0, 4)) {
            return -1;
        }
        Archer a = m.now.archers.get(archer);
        return new int[] {a.own, a.skill, a.away, a.ill, a.arrows}[what];
    }

    int wind(int shot) {
        return told() && in(shot, 0, m.now.winds.size() - 1) ? m.now.winds.get(shot) : -1;
    }

    int round() {
        if (!told() || m.now.round == 999) {
            return -1;
        }
        act();
        int[] came = play(m.now, inForce(), -1, Map.of());
        int bits = 0;
        for (int a = 0; a < came.length; a++) {
            if (came[a] == m.now.rings.get(m.now.archers.get(a).own).place) {
                bits += 1 << a;
            }
        }
        return bits;
    }

    int shoot(int archer, int ring) {
        if (!archerIs(archer) || !ringIs(ring) || m.now.archers.get(archer).arrows == 0) {
            return -1;
        }
        act();
        int place = m.now.shoot(archer, ring, m.now.wind());
        return place == -1 ? -2 : place;
    }

    int pull(int ring, int archer) {
        if (!archerIs(archer) || !ringIs(ring) || m.now.rings.get(ring).stuck == 0) {
            return -1;
        }
        act();
        Archer a = m.now.archers.get(archer);
        a.arrows = Math.min(99, a.arrows + m.now.rings.get(ring).stuck);
        m.now.rings.get(ring).stuck = 0;
        return a.arrows;
    }

    int breath(int shots) {
        if (!told() || !in(shots, 1, 20)) {
            return -1;
        }
        act();
        m.now.shot += shots;
        return m.now.shot;
    }

    int teach(int archer, int skill) {
        if (!archerIs(archer) || !in(skill, 1, 9) || m.now.archers.get(archer).skill == skill) {
            return -1;
        }
        act();
        int was = m.now.archers.get(archer).skill;
        m.now.archers.get(archer).skill = skill;
        return was;
    }

    int undo() {
        if (undo.isEmpty()) {
            return -1;
        }
        m.now = undo.remove(undo.size() - 1);
        return undo.size();
    }

    int ahead(int archer, int n, int what) {
        if (!told() || !in(n, 0, 100) || !in(what, 0, 2) || what < 2 && !archerIs(archer)) {
            return -1;
        }
        State s = ahead(m.now, inForce(), n);
        return what == 2 ? s.hedge : what == 0 ? s.archers.get(archer).ill : s.archers.get(archer).arrows;
    }

    int eased(int archer) {
        if (!archerIs(archer)) {
            return -1;
        }
        for (int i = 0; i < 200; i++) {
            if (ahead(m.now, inForce(), i + 1).archers.get(archer).ill == 0) {
                return m.now.round + i;
            }
        }
        return -2;
    }

    int allEased() {
        if (!told()) {
            return -1;
        }
        for (int i = 0; i < 200; i++) {
            if (ahead(m.now, inForce(), i + 1).ill() == 0) {
                return m.now.round + i;
            }
        }
        return -2;
    }

    int down(int archer, int ring) {
        if (!archerIs(archer) || !ringIs(ring)) {
            return -1;
        }
        int place = m.now.place(archer, ring, m.now.wind());
        return place == -1 ? -2 : place;
    }

    int bestAim(int archer, int what) {
        if (!archerIs(archer) || !in(what, 0, 1)) {
            return -2;
        }
        int best = -1;
        int much = 0;
        for (int r = 0; r < m.now.rings.size(); r++) {
            State s = m.now.copy();
            s.shoot(archer, r, s.wind());
            int eased = m.now.archers.get(archer).ill - s.archers.get(archer).ill;
            if (eased > much) {
                much = eased;
                best = r;
            }
        }
        return what == 0 ? best : much;
    }

    int row(int archer, int n, int what) {
        if (!archerIs(archer) || !in(n, 1, 5) || !in(what, 0, 5) || m.now.archers.get(archer).arrows == 0) {
            return -3;
        }
        int kinds = m.now.rings.size() + 1;
        int all = 1;
        for (int i = 0; i < n; i++) {
            all *= kinds;
        }
        int[] best = null;
        int bestEased = -1;
        int bestArrows = 0;
        for (int number = 0; number < all; number++) {
            int[] row = new int[n];
            for (int i = n - 1, rest = number; i >= 0; i--, rest /= kinds) {
                row[i] = rest % kinds - 1;
            }
            State s = m.now.copy();
            int used = 0;
            boolean can = true;
            for (int aim : row) {
                if (aim == -1) {
                    s.shot++;
                } else if (s.archers.get(archer).arrows == 0) {
                    can = false;
                } else {
                    s.shoot(archer, aim, s.wind());
                    used++;
                }
            }
            int eased = m.now.ill() - s.ill();
            if (can && (eased > bestEased || eased == bestEased && used < bestArrows)) {
                best = row;
                bestEased = eased;
                bestArrows = used;
            }
        }
        return what == 0 ? bestEased : what > n ? -2 : best[what - 1];
    }

    int hold(int archer) {
        if (!archerIs(archer)) {
            return -1;
        }
        for (int i = 0; i <= 60; i++) {
            State s = m.now.copy();
            s.shot += i;
            int own = s.archers.get(archer).own;
            int stuck = s.rings.get(own).stuck;
            s.shoot(archer, own, s.wind());
            if (s.rings.get(own).stuck > stuck) {
                return i;
            }
        }
        return -2;
    }

    int leastSkill(int archer, int n) {
        if (!archerIs(archer) || !in(n, 1, 40)) {
            return -1;
        }
        for (int skill = 1; skill <= 9; skill++) {
            State s = m.now.copy();
            s.archers.get(archer).skill = skill;
            if (ahead(s, inForce(), n).archers.get(archer).ill == 0) {
                return skill;
            }
        }
        return -2;
    }

    int set(int ring, int n, int what) {
        if (!ringIs(ring) || !in(n, 1, 40) || !in(what, 0, 1)) {
            return -1;
        }
        int best = m.now.rings.get(ring).place;
        int much = m.now.ill() - ahead(m.now, inForce(), n).ill();
        for (int place = 0; place < m.now.length; place++) {
            int p = place;
            if (m.now.rings.stream().noneMatch(r -> r.place == p)) {
                State s = m.now.copy();
                s.rings.get(ring).place = place;
                int eased = m.now.ill() - ahead(s, inForce(), n).ill();
                if (eased > much) {
                    much = eased;
                    best = place;
                }
            }
        }
        return what == 0 ? best : much;
    }

    int given(int n, int what) {
        if (!told() || !in(n, 1, 40) || !in(what, 0, 1)) {
            return -2;
        }
        int best = -1;
        int much = m.now.ill() - ahead(m.now, inForce(), n).ill();
        for (int a = 0; a < m.now.archers.size(); a++) {
            State s = m.now.copy();
            int all = Math.min(99, s.arrows());
            for (Archer other : s.archers) {
                other.arrows = 0;
            }
            s.archers.get(a).arrows = all;
            int eased = m.now.ill() - ahead(s, inForce(), n).ill();
            if (eased > much) {
                much = eased;
                best = a;
            }
        }
        return what == 0 ? best : much;
    }

    private boolean notesAreSo(State begin, List<Clause> rule) {
        for (Note note : m.notes) {
            State s = ahead(begin, rule, note.n());
            if (play(s, rule, -1, Map.of())[note.archer()] != note.place()) {
                return false;
            }
        }
        return true;
    }

    /** For tests that want notes which are so: what a rule brings, if there is all that is asked. */
    int wouldCome(int rule, int n, int archer) {
        if (!archerIs(archer) || !in(n, 0, 40)) {
            return 0;
        }
        List<Clause> by = rule < 0 ? null : rules.get(rule);
        return play(ahead(m.begin, by, n), by, -1, Map.of())[archer];
    }

    int skilled(int archer) {
        if (!archerIs(archer)) {
            return -1;
        }
        int bits = 0;
        for (int skill = 1; skill <= 9; skill++) {
            State s = m.begin.copy();
            s.archers.get(archer).skill = skill;
            bits += notesAreSo(s, inForce()) ? 1 << skill : 0;
        }
        return bits;
    }

    int ails(int archer) {
        if (!archerIs(archer)) {
            return -1;
        }
        int bits = 0;
        for (int ring = 0; ring < m.begin.rings.size(); ring++) {
            State s = m.begin.copy();
            s.archers.get(archer).own = ring;
            bits += notesAreSo(s, inForce()) ? 1 << ring : 0;
        }
        return bits;
    }

    int rests(int one, int other, int n, int what) {
        if (!archerIs(one) || !archerIs(other) || one == other || !in(n, 1, 20) || !in(what, 0, 2)) {
            return -1;
        }
        int rings = m.now.rings.size();
        int found = 0;
        int[] first = {0, -2, -2};
        for (int a = 0; a < rings; a++) {
            for (int b = 0; b < rings; b++) {
                boolean rests = true;
                for (int c = 0; c < rings; c++) {
                    rests &= has(one, other, a, b, n)[0] >= has(one, other, c, b, n)[0];
                    rests &= has(one, other, a, b, n)[1] >= has(one, other, a, c, n)[1];
                }
                if (rests && found++ == 0) {
                    first[1] = a;
                    first[2] = b;
                }
            }
        }
        first[0] = found;
        return first[what];
    }

    private int[] has(int one, int other, int a, int b, int n) {
        State s = m.now.copy();
        for (int i = 0; i < n; i++) {
            play(s, inForce(), -1, Map.of(one, a, other, b));
        }
        int[] has = new int[2];
        for (int i = 0; i < 2; i++) {
            int who = i == 0 ? one : other;
            has[i] = m.now.archers.get(who).ill - s.archers.get(who).ill + s.archers.get(who).arrows / 2;
        }
        return has;
    }

    int pence(int much, int ring) {
        if (!in(much, 0, 9999) || !ringIs(ring)) {
            return -1;
        }
        int all = m.now.rings.stream().mapToInt(r -> r.stuck).sum();
        if (all == 0) {
            return 0;
        }
        int[] part = new int[m.now.rings.size()];
        List<Integer> order = new ArrayList<>();
        int left = much;
        for (int r = 0; r < part.length; r++) {
            part[r] = much * m.now.rings.get(r).stuck / all;
            left -= part[r];
            order.add(r);
        }
        order.sort((r, s) -> much * m.now.rings.get(s).stuck % all - much * m.now.rings.get(r).stuck % all);
        for (int i = 0; i < left; i++) {
            part[order.get(i)]++;
        }
        return part[ring];
    }

    int note(int n, int archer, int place) {
        if (n == -1) {
            m.notes.clear();
            return 0;
        }
        if (!in(n, 0, 40) || !archerIs(archer) || !(in(place, -1, m.now.length - 1) || place == 99)
            || m.notes.size() == 10) {
            return -2;
        }
        m.notes.add(new Note(n, archer, place));
        return m.notes.size();
    }

    private List<Integer> fitting() {
        List<Integer> fit = new ArrayList<>();
        for (int r = -1; r < rules.size(); r++) {
            if (notesAreSo(m.begin, r < 0 ? null : rules.get(r))) {
                fit.add(r);
            }
        }
        return fit;
    }

    int ruled(int what) {
        if (!told() || !in(what, 0, 1)) {
            return -3;
        }
        List<Integer> fit = fitting();
        return what == 0 ? fit.size() : fit.isEmpty() ? -2 : fit.get(0);
    }

    int look(int n, int what) {
        if (!told() || !in(n, 0, 40) || !in(what, 0, 1)) {
            return -1;
        }
        List<Integer> fit = fitting();
        if (fit.isEmpty() || m.now.archers.isEmpty()) {
            return -2;
        }
        int best = -1;
        int fewest = 99;
        for (int a = 0; a < m.now.archers.size(); a++) {
            Map<Integer, Integer> alike = new HashMap<>();
            for (int r : fit) {
                List<Clause> rule = r < 0 ? null : rules.get(r);
                State s = ahead(m.begin, rule, n);
                alike.merge(play(s, rule, -1, Map.of())[a], 1, Integer::sum);
            }
            int most = alike.values().stream().mapToInt(i -> i).max().orElse(0);
            if (most < fewest) {
                fewest = most;
                best = a;
            }
        }
        return what == 0 ? best : fewest;
    }

    int seed(int x) {
        if (x < 0) {
            return -1;
        }
        int was = m.x;
        m.x = x;
        return was;
    }

    int gusts(int times, int n, int p, int what) {
        if (!told() || !in(times, 1, 10) || !in(n, 1, 40) || !in(p, 0, 100) || !in(what, 0, 1)) {
            return -1;
        }
        long x = m.x;
        int eased = 0;
        int hedge = 0;
        for (int i = 0; i < times; i++) {
            State s = m.now.copy();
            for (int j = 0; j < n; j++) {
                int gust = -1;
                x = (x * 1103515245L + 12345) % 2147483648L;
                if (x / 65536 % 100 < p) {
                    x = (x * 1103515245L + 12345) % 2147483648L;
                    gust = (int) (x / 65536 % 9);
                }
                play(s, inForce(), gust, Map.of());
            }
            eased += m.now.ill() - s.ill();
            hedge += s.hedge;
        }
        return what == 0 ? eased : hedge;
    }

    int count(int what) {
        State s = told() ? m.now : new State();
        int[] all = {s.length, s.quiver, s.winds.size(), s.rings.size(), s.archers.size(), rules.size(), m.force,
            s.round, s.shot, s.ill(), s.arrows(), s.hedge, m.notes.size(), undo.size(), m.x, tape.length()};
        return in(what, 0, 15) ? all[what] : -1;
    }

    int image(int k) {
        if (!in(k, 0, 3)) {
            return -1;
        }
        images[k] = m.copy();
        return told() ? m.now.round : 0;
    }

    int back(int k) {
        if (!in(k, 0, 3) || images[k] == null) {
            return -1;
        }
        m = images[k].copy();
        undo.clear();
        return told() ? m.now.round : 0;
    }
}
