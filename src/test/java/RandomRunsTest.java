import java.util.ArrayList;
import java.util.List;
import java.util.Random;

/**
 * Runs of calls, always the same ones, each answer against that of the plain model. An object is
 * good for 512 calls, so whenever all is asked that goes to a new one that was told the same.
 */
public final class RandomRunsTest {
    private static final int RUNS = 2000;
    private static final int MOST_CALLS = 512;
    private static final int CALLS_TO_ASK_ALL = 4 + 15 * 20;
    /** More pieces than this make the plain model slow with three and four colours. */
    private static final int[] MOST_FOR = {0, 0, 12, 9, 8};

    private final Random chance;
    private final long distance;
    private final ColourParts one;
    private final List<Layout.Use> changes = new ArrayList<>();
    private final PlainModel plain;
    private final int span;
    private int shapes = 0;
    private int pieces = 0;
    private static final int[] ringsSeen = new int[13];
    private static final int[] usedSeen = new int[12];
    private static final int[] answersSeen = new int[3];

    private RandomRunsTest(int seed) {
        // Small seeds next to each other would begin with nearly the same numbers.
        chance = new Random(seed * 0x9E3779B97F4A7C15L);
        distance = chance.nextInt(8) == 0 ? chance.nextInt(3) - 1 : 1 + chance.nextInt(5);
        one = new ColourParts(distance);
        plain = new PlainModel(distance);
        span = 6 + chance.nextInt(20);
        Check.begin("seed " + seed + " distance " + distance);
    }

    public static void main(String[] args) {
        for (int seed = 0; seed < RUNS && Check.wrongOnes() < 20; seed++) {
            RandomRunsTest run = new RandomRunsTest(seed);
            switch (seed % 4) {
                case 0: run.disorder(); break;
                case 1: run.layout(); break;
                case 2: run.comb(); break;
                default: run.chain();
            }
        }
        Check.begin("of all runs");
        Check.same("rings of 3 seen", ringsSeen[3] > 50, true);
        Check.same("rings of 5 seen", ringsSeen[5] > 50, true);
        Check.same("rings of 7 seen", ringsSeen[7] > 5, true);
        Check.same("rings of 9 seen", ringsSeen[9] > 2, true);
        Check.same("none of rings seen", ringsSeen[0] > 50, true);
        Check.same("one stitch used seen", usedSeen[1] > 50, true);
        Check.same("two stitches used seen", usedSeen[2] > 20, true);
        Check.same("three stitches used seen", usedSeen[3] > 0, true);
        for (int answer = 0; answer < 3; answer++) {
            Check.same("run() answering " + answer + " seen", answersSeen[answer] > 50, true);
        }
        Check.end();
    }

    private static void both(String call, Check.Call a, Check.Call b) {
        Check.sameText(call, Check.outcome(a), Check.outcome(b));
    }

    /** A call that may change something; what it answers, or the least number if it throws. */
    private long change(String call, Layout.Use a, Check.Call b) {
        if (changes.size() + CALLS_TO_ASK_ALL >= MOST_CALLS) {
            return Long.MIN_VALUE;
        }
        changes.add(a);
        String due = Check.outcome(b);
        Check.sameText(call, Check.outcome(() -> a.of(one)), due);
        return due.contains("throws") ? Long.MIN_VALUE : Long.parseLong(due);
    }

    /** Calls of any kind in any order, many of them wrong ones. */
    private void disorder() {
        for (int i = 0; i < 220; i++) {
            anyCall();
            if (i % 15 == 0) {
                askAll();
            }
        }
    }

    private void anyCall() {
        int s = chance.nextInt(20) == 0 ? chance.nextInt(16) - 3 : chance.nextInt(Math.max(1, shapes));
        int kind = chance.nextInt(100);
        if (kind < 12) {
            shape();
        } else if (kind < 50) {
            corner(s, far(), far());
        } else if (kind < 64) {
            stitch(s, far(), chance.nextInt(4) != 0);
        } else if (kind < 72) {
            pre(s, chance.nextInt(10) - 3);
        } else if (kind < 92) {
            run(1 + chance.nextInt(5), chance.nextInt(16) - 1);
        } else if (kind < 93) {
            clear();
        } else {
            askAll();
        }
    }

    private long far() {
        return chance.nextInt(60) == 0 ? 1000001L * (chance.nextInt(3) - 1) : chance.nextInt(span);
    }

    /** Shapes of some boxes here and there, then stitches and told colours. */
    private void layout() {
        int many = 3 + chance.nextInt(8);
        for (int s = 0; s < many; s++) {
            shape();
            int boxes = 1 + chance.nextInt(chance.nextInt(3) == 0 ? 4 : 1);
            for (int b = 0; b < boxes; b++) {
                bar(s, chance.nextInt(span), chance.nextInt(span), chance.nextInt(2 * span / 3), chance.nextInt(3));
            }
        }
        tellMore(many);
    }

    /** A long bar with teeth along it, most of them of told colours, so that stitches are of use. */
    private void comb() {
        boolean lies = chance.nextBoolean();
        int teeth = 2 + chance.nextInt(4);
        int told = 2 + chance.nextInt(chance.nextInt(2) == 0 ? 3 : 1);
        for (int s = 0; s <= teeth; s++) {
            shape();
        }
        int bar = chance.nextInt(teeth + 1);
        turned(lies, bar, 0, 0, 10 * teeth, 2);
        for (int k = 0; k < teeth; k++) {
            int s = k < bar ? k : k + 1;
            int from = 10 * k + chance.nextInt(4);
            turned(lies, s, from, 2, from + chance.nextInt(4), 3 + chance.nextInt(4));
        }
        for (int s = 0; s <= teeth; s++) {
            if (s != bar && chance.nextInt(4) != 0) {
                pre(s, chance.nextInt(3) == 0 ? chance.nextInt(told) : (s < bar ? s : s + 1) % 2);
            }
        }
        for (int t = 0; t < 3; t++) {
            run(told, 12);
            int gap = 10 * (chance.nextInt(3) == 0 ? chance.nextInt(teeth) : t) + 4 + chance.nextInt(6);
            stitch(bar, chance.nextInt(4) == 0 ? chance.nextInt(10 * teeth) : gap, lies);
        }
        tellMore(teeth + 1);
    }

    private void turned(boolean lies, int s, int x, int y, int toX, int toY) {
        corner(s, lies ? x : y, lies ? y : x);
        corner(s, lies ? toX : toY, lies ? toY : toX);
    }

    /** A closed chain along the border of a square, its shapes in any order; perhaps a bar across. */
    private void chain() {
        int links = 3 + chance.nextInt(7);
        int side = 16;
        for (int s = 0; s < links; s++) {
            shape();
        }
        int first = chance.nextInt(links);
        int step = links == 4 || links == 8 || links == 6 || links == 9 ? links - 1 : 1 + chance.nextInt(links - 1);
        int[] ends = new int[links + 1];
        for (int k = 0; k < links; k++) {
            ends[k] = 4 * side * k / links + chance.nextInt(Math.max(1, 2 * side / links));
        }
        ends[links] = ends[0] + 4 * side;
        for (int k = 0; k < links; k++) {
            link((first + k * step) % links, ends[k], ends[k + 1], side);
        }
        if (chance.nextInt(3) == 0 && links < 10) {
            shape();
            bar(shapes - 1, chance.nextInt(side), chance.nextInt(side), side, 0);
        }
        tellMore(shapes);
    }

    private void link(int s, int from, int to, int side) {
        for (int at = from; at < to;) {
            int next = Math.min(to, at - at % side + side);
            corner(s, alongX(at, side), alongX(at + 3 * side, side));
            corner(s, alongX(next, side), alongX(next + 3 * side, side));
            at = next;
        }
    }

    /** x of the place so far along the square's border; three sides further on it is y. */
    private static int alongX(int at, int side) {
        int rest = at % (4 * side);
        return rest < side ? rest : rest < 2 * side ? side : rest < 3 * side ? 3 * side - rest : 0;
    }

    private void tellMore(int many) {
        for (int i = 0; i < 12; i++) {
            run(2 + chance.nextInt(3), chance.nextInt(4) == 0 ? chance.nextInt(14) : 12);
            askAll();
            int kind = chance.nextInt(4);
            if (kind == 0) {
                pre(chance.nextInt(many), chance.nextInt(5) - 1);
            } else if (kind < 3) {
                stitch(chance.nextInt(many), chance.nextInt(span + 8), chance.nextBoolean());
            } else if (i > 5) {
                shape();
                corner(shapes - 1, chance.nextInt(span), chance.nextInt(span));
                corner(shapes - 1, chance.nextInt(span), chance.nextInt(span));
            }
        }
    }

    private void bar(int s, int x, int y, int longer, int shorter) {
        boolean lies = chance.nextBoolean();
        corner(s, x, y);
        corner(s, x + (lies ? longer : shorter), y + (lies ? shorter : longer));
    }

    private void shape() {
        if (change("shape()", x -> x.shape(), plain::shape) >= 0) {
            shapes++;
            pieces++;
        }
    }

    private void corner(int s, long px, long py) {
        change("corner(" + s + ", " + px + ", " + py + ")",
            x -> Check.flag(x.corner(s, px, py)), () -> Check.flag(plain.corner(s, px, py)));
    }

    private void stitch(int s, long at, boolean across) {
        if (change("stitch(" + s + ", " + at + ", " + across + ")",
                x -> Check.flag(x.stitch(s, at, across)), () -> Check.flag(plain.stitch(s, at, across))) == 1) {
            pieces++;
        }
    }

    private void pre(int s, int colour) {
        change("pre(" + s + ", " + colour + ")",
            x -> Check.flag(x.pre(s, colour)), () -> Check.flag(plain.pre(s, colour)));
    }

    private void run(int wished, long steps) {
        int colours = wished >= 2 && wished <= 4 && pieces > MOST_FOR[wished] ? 2 : wished;
        long answer = change("run(" + colours + ", " + steps + ")",
            x -> x.run(colours, steps), () -> plain.run(colours, steps));
        if (answer >= 0) {
            answersSeen[(int) answer]++;
        }
        if (answer == 0) {
            usedSeen[plain.stitches()]++;
        }
        if (answer == 1 && colours == 2) {
            ringsSeen[plain.length()]++;
        }
    }

    private void clear() {
        long answer = change("clear()", RandomRunsTest::cleared, () -> {
            plain.clear();
            return 0;
        });
        if (answer == 0) {
            shapes = 0;
            pieces = 0;
        }
    }

    private static long cleared(ColourParts x) {
        x.clear();
        return 0;
    }

    private void askAll() {
        ColourParts x = new ColourParts(distance);
        for (Layout.Use one : changes) {
            Check.outcome(() -> one.of(x));
        }
        both("near()", x::near, plain::near);
        both("length()", x::length, plain::length);
        both("stitches()", x::stitches, plain::stitches);
        both("closed()", () -> Check.flag(x.closed()), () -> Check.flag(plain.closed()));
        for (int i = -1; i <= 13; i++) {
            int k = i;
            both("colour(" + k + ")", () -> x.colour(k), () -> plain.colour(k));
            both("ring(" + k + ")", () -> x.ring(k), () -> plain.ring(k));
            for (int j = -1; j <= 4; j++) {
                int m = j;
                both("used(" + k + ", " + m + ")", () -> Check.flag(x.used(k, m)), () -> Check.flag(plain.used(k, m)));
                both("pair(" + k + ", " + m + ")", () -> x.pair(k, m), () -> plain.pair(k, m));
                both("balance(" + k + ", " + m + ")", () -> x.balance(k, m), () -> plain.balance(k, m));
            }
        }
    }
}
