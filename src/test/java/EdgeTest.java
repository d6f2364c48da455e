import java.nio.charset.StandardCharsets;
import java.util.function.ToIntBiFunction;

/**
 * All promises: each call with every row of numbers about the edges that the document names, and the
 * farthest numbers there are, on objects as unlike as can be; each answer held against Oracle's. What
 * changes something is called on a new object each time.
 */
public final class EdgeTest {
    private static final int LOW = Integer.MIN_VALUE;
    private static final int HIGH = Integer.MAX_VALUE;
    private static final String MOST = "green 20 20;wind 4;wind 0;wind 8;wind 1;wind 7;wind 2;wind 6;wind 3;wind 5;wind 4"
        + ";wind 8;wind 4;ring 0 1;ring 19 9;ring 5 2;ring 7 3;ring 9 4;ring 10 5"
        + ";archer 0 1 1 0;archer 1 9 9 30;archer 2 2 2 2;archer 3 3 3 13;archer 5 1 1 24";
    private static final String[] GREENS = {null, "green 3 0", "green 3 20;ring 2 1", "green 3 1;ring 1 1;archer 0 1 1 30",
        Twin.GREEN, MOST};

    private static final int[] ARCHERS = {LOW, -2, -1, 0, 1, 4, 5, HIGH};
    private static final int[] RINGS = {LOW, -1, 0, 1, 5, 6, HIGH};

    interface Call<T> {
        int of(T x, int a, int b, int c, int d);
    }

    private static int kind;

    private EdgeTest() {
    }

    public static void main(String[] args) {
        for (kind = 0; kind < GREENS.length; kind++) {
            looks();
            acts();
            asks();
            studies();
            draws();
        }
        Check.finish();
    }

    private static byte[] bytes(String text) {
        return text.getBytes(StandardCharsets.ISO_8859_1);
    }

    private static void tell(Oracle o, String text) {
        o.end(0);
        byte[] bytes = bytes(text);
        for (int at = 0; at < bytes.length; at += 20) {
            int[] five = new int[5];
            for (int i = 0; i < 20; i++) {
                five[i / 4] = five[i / 4] << 8 | (at + i < bytes.length ? bytes[at + i] & 255 : 0);
            }
            o.feed(five);
        }
        o.end(bytes.length);
    }

    private static StrawButts made() {
        StrawButts x = new StrawButts();
        Check.rule(x, "aim own");
        Check.rule(x, "aim eases-stuck if drift<2 and drift>0-2;aim own if round%2=0");
        if (GREENS[kind] != null) {
            Check.green(x, GREENS[kind]);
        }
        x.force(1);
        x.seed(HIGH);
        x.round();
        x.shoot(0, 0);
        x.note(0, 0, 99);
        x.image(0);
        x.image(3);
        x.breath(3);
        return x;
    }

    private static Oracle madeOracle() {
        Oracle o = new Oracle();
        tell(o, "aim own");
        o.rule();
        tell(o, "aim eases-stuck if drift<2 and drift>0-2;aim own if round%2=0");
        o.rule();
        if (GREENS[kind] != null) {
            tell(o, GREENS[kind]);
            o.green();
        }
        o.force(1);
        o.seed(HIGH);
        o.round();
        o.shoot(0, 0);
        o.note(0, 0, 99);
        o.image(0);
        o.image(3);
        o.breath(3);
        return o;
    }

    private static int state(ToIntBiFunction<Integer, Integer> ring, ToIntBiFunction<Integer, Integer> archer) {
        int all = 7;
        for (int i = 0; i < 6; i++) {
            for (int what = 0; what < 5; what++) {
                all = 31 * all + ring.applyAsInt(i, what);
                all = 31 * all + archer.applyAsInt(i, what);
            }
        }
        return all;
    }

    /** One call with every row of four numbers; a call that takes fewer has {0} for the others. */
    private static void sweep(String name, Call<Oracle> due, Call<StrawButts> got, boolean changes, int[]... edges) {
        int[] none = {0};
        Oracle o = madeOracle();
        StrawButts x = made();
        int calls = 0;
        for (int a : edges[0]) {
            for (int b : edges.length > 1 ? edges[1] : none) {
                for (int c : edges.length > 2 ? edges[2] : none) {
                    for (int d : edges.length > 3 ? edges[3] : none) {
                        if (changes) {
                            o = madeOracle();
                        }
                        // an object is promised for 512 calls
                        if (changes || ++calls % 400 == 0) {
                            x = made();
                        }
                        String call = GREENS[kind] + ": " + name + " " + a + " " + b + " " + c + " " + d;
                        Check.due(call, due.of(o, a, b, c, d), got.of(x, a, b, c, d));
                        if (changes) {
                            alike(call, o, x);
                        }
                    }
                }
            }
        }
        alike(GREENS[kind] + ": behind " + name, o, x);
    }

    private static void alike(String call, Oracle o, StrawButts x) {
        for (int what = 0; what < 16; what++) {
            Check.due(call + ": count " + what, o.count(what), x.count(what));
        }
        Check.due(call + ": all", state(o::ring, o::archer), state(x::ring, x::archer));
    }

    private static void looks() {
        int[] whats = {LOW, -1, 0, 1, 2, 3, 4, 5, 15, 16, HIGH};
        int[] shots = {LOW, -1, 0, 1, 2, 11, 12, HIGH};
        sweep("ring", (o, a, b, c, d) -> o.ring(a, b), (x, a, b, c, d) -> x.ring(a, b), false, RINGS, whats);
        sweep("archer", (o, a, b, c, d) -> o.archer(a, b), (x, a, b, c, d) -> x.archer(a, b), false, ARCHERS, whats);
        sweep("wind", (o, a, b, c, d) -> o.wind(a), (x, a, b, c, d) -> x.wind(a), false, shots);
        sweep("count", (o, a, b, c, d) -> o.count(a), (x, a, b, c, d) -> x.count(a), false, whats);
    }

    private static void acts() {
        int[] rules = {LOW, -3, -2, -1, 0, 1, 2, 5, 6, HIGH};
        int[] skills = {LOW, -1, 0, 1, 2, 9, 10, HIGH};
        int[] shots = {LOW, -1, 0, 1, 20, 21, HIGH};
        int[] lengths = {LOW, -1, 0, 1, 400, 401, HIGH};
        sweep("end", (o, a, b, c, d) -> o.end(a), (x, a, b, c, d) -> x.end(a), true, lengths);
        sweep("force", (o, a, b, c, d) -> o.force(a), (x, a, b, c, d) -> x.force(a), true, rules);
        sweep("shoot", (o, a, b, c, d) -> o.shoot(a, b), (x, a, b, c, d) -> x.shoot(a, b), true, ARCHERS, RINGS);
        sweep("pull", (o, a, b, c, d) -> o.pull(a, b), (x, a, b, c, d) -> x.pull(a, b), true, RINGS, ARCHERS);
        sweep("breath", (o, a, b, c, d) -> o.breath(a), (x, a, b, c, d) -> x.breath(a), true, shots);
        sweep("teach", (o, a, b, c, d) -> o.teach(a, b), (x, a, b, c, d) -> x.teach(a, b), true, ARCHERS, skills);
    }

    private static void asks() {
        int[] far = {LOW, -1, 0, 1, 99, 100, 101, HIGH};
        int[] forty = {LOW, -1, 0, 1, 40, 41, HIGH};
        int[] twenty = {LOW, -1, 0, 1, 20, 21, HIGH};
        int[] five = {LOW, -1, 0, 1, 2, 5, 6, HIGH};
        int[] six = {LOW, -1, 0, 1, 2, 3, 5, 6, HIGH};
        int[] three = {LOW, -1, 0, 1, 2, 3, HIGH};
        int[] pence = {LOW, -1, 0, 1, 2, 9998, 9999, 10000, HIGH};
        sweep("ahead", (o, a, b, c, d) -> o.ahead(a, b, c), (x, a, b, c, d) -> x.ahead(a, b, c), false, ARCHERS, far, three);
        sweep("eased", (o, a, b, c, d) -> o.eased(a), (x, a, b, c, d) -> x.eased(a), false, ARCHERS);
        sweep("allEased", (o, a, b, c, d) -> o.allEased(), (x, a, b, c, d) -> x.allEased(), false, new int[1]);
        sweep("down", (o, a, b, c, d) -> o.down(a, b), (x, a, b, c, d) -> x.down(a, b), false, ARCHERS, RINGS);
        sweep("bestAim", (o, a, b, c, d) -> o.bestAim(a, b), (x, a, b, c, d) -> x.bestAim(a, b), false, ARCHERS, three);
        sweep("row", (o, a, b, c, d) -> o.row(a, b, c), (x, a, b, c, d) -> x.row(a, b, c), false, ARCHERS, five, six);
        sweep("hold", (o, a, b, c, d) -> o.hold(a), (x, a, b, c, d) -> x.hold(a), false, ARCHERS);
        sweep("leastSkill", (o, a, b, c, d) -> o.leastSkill(a, b), (x, a, b, c, d) -> x.leastSkill(a, b), false,
            ARCHERS, forty);
        sweep("set", (o, a, b, c, d) -> o.set(a, b, c), (x, a, b, c, d) -> x.set(a, b, c), false, RINGS, forty, three);
        sweep("given", (o, a, b, c, d) -> o.given(a, b), (x, a, b, c, d) -> x.given(a, b), false, forty, three);
        sweep("rests", (o, a, b, c, d) -> o.rests(a, b, c, d), (x, a, b, c, d) -> x.rests(a, b, c, d), false,
            ARCHERS, new int[] {-1, 0, 4, 5}, twenty, three);
        sweep("pence", (o, a, b, c, d) -> o.pence(a, b), (x, a, b, c, d) -> x.pence(a, b), false, pence, RINGS);
    }

    private static void studies() {
        int[] rounds = {LOW, -2, -1, 0, 1, 40, 41, HIGH};
        int[] places = {LOW, -2, -1, 0, 2, 3, 9, 10, 19, 20, 98, 99, 100, HIGH};
        int[] three = {LOW, -1, 0, 1, 2, HIGH};
        sweep("note", (o, a, b, c, d) -> o.note(a, b, c), (x, a, b, c, d) -> x.note(a, b, c), true, rounds, ARCHERS, places);
        sweep("skilled", (o, a, b, c, d) -> o.skilled(a), (x, a, b, c, d) -> x.skilled(a), false, ARCHERS);
        sweep("ails", (o, a, b, c, d) -> o.ails(a), (x, a, b, c, d) -> x.ails(a), false, ARCHERS);
        sweep("ruled", (o, a, b, c, d) -> o.ruled(a), (x, a, b, c, d) -> x.ruled(a), false, three);
        sweep("look", (o, a, b, c, d) -> o.look(a, b), (x, a, b, c, d) -> x.look(a, b), false, rounds, three);
    }

    private static void draws() {
        int[] seeds = {LOW, -1, 0, 1, HIGH};
        int[] ten = {LOW, -1, 0, 1, 10, 11, HIGH};
        int[] forty = {LOW, -1, 0, 1, 40, 41, HIGH};
        int[] hundred = {LOW, -1, 0, 1, 50, 99, 100, 101, HIGH};
        int[] three = {LOW, -1, 0, 1, 2, HIGH};
        int[] images = {LOW, -1, 0, 1, 3, 4, HIGH};
        sweep("seed", (o, a, b, c, d) -> o.seed(a), (x, a, b, c, d) -> x.seed(a), true, seeds);
        sweep("gusts", (o, a, b, c, d) -> o.gusts(a, b, c, d), (x, a, b, c, d) -> x.gusts(a, b, c, d), false,
            ten, forty, hundred, three);
        sweep("image", (o, a, b, c, d) -> o.image(a), (x, a, b, c, d) -> x.image(a), true, images);
        sweep("back", (o, a, b, c, d) -> o.back(a), (x, a, b, c, d) -> x.back(a), true, images);
    }
}
