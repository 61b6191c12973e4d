/** Promise 15, closed: "Whether the latest run() (that did not throw) was not 2; false before the first one." */
public final class Promise15Test extends Layout {
    public static void main(String[] args) {
        Sentences.check(Promise15Test.class, "promise15");
    }

    /** So many points at one place; runs in turn with their colours and steps, and what they answer. */
    private static void runs(int many, int[][] runs) {
        ColourParts x = told(1, y -> heap(y, many));
        Check.same("before the first run()", x.closed(), false);
        for (int[] one : runs) {
            Check.same("run(" + one[0] + ", " + one[1] + ")", x.run(one[0], one[1]), one[2]);
            Check.same("after " + one[2], x.closed(), one[2] != 2);
            Check.same("asked again", x.closed(), one[2] != 2);
        }
    }

    static void promise15_falseBeforeTheFirstOne() {
        Check.same("a new object", new ColourParts(1).closed(), false);
        ColourParts x = row(3);
        x.pre(0, 1);
        x.near();
        Check.same("with shapes", x.closed(), false);
        Check.argument("a run() that throws", () -> x.run(1, 1));
        Check.argument("a run() that throws", () -> x.run(2, -1));
        x.shape();
        Check.state("a run() that throws", () -> x.run(2, 1));
        Check.same("after runs that threw", x.closed(), false);
    }

    static void promise15_whetherItWasNot2() {
        runs(3, new int[][] {{2, 2, 2}, {2, 3, 1}, {2, 2, 2}, {3, 3, 0}, {2, 0, 2}, {3, 3, 0}, {2, 3, 1}, {3, 12, 0}});
        runs(0, new int[][] {{2, 0, 0}});
        runs(1, new int[][] {{2, 0, 2}, {2, 1, 0}, {2, 0, 2}});
        runs(5, new int[][] {{4, 5, 1}, {4, 4, 2}, {4, 5, 1}});
    }

    static void promise15_thatDidNotThrow_trueStays() {
        ColourParts x = row(2);
        x.run(2, 2);
        Check.argument("run()", () -> x.run(1, 2));
        Check.argument("run()", () -> x.run(5, 0));
        Check.argument("run()", () -> x.run(2, -1));
        Check.same("closed()", x.closed(), true);
        x.shape();
        Check.state("run()", () -> x.run(2, 0));
        Check.same("closed()", x.closed(), true);
    }

    static void promise15_thatDidNotThrow_falseStays() {
        ColourParts x = row(2);
        x.run(2, 2);
        x.run(2, 1);
        Check.argument("run()", () -> x.run(1, 2));
        Check.argument("run()", () -> x.run(2, Long.MIN_VALUE));
        Check.same("closed()", x.closed(), false);
        x.shape();
        Check.state("run()", () -> x.run(2, 9));
        Check.same("closed()", x.closed(), false);
    }

    static void promise15_noOtherCallChangesIt() {
        for (int steps = 8; steps <= 9; steps++) {
            ColourParts x = comb();
            standing(x, 0, 6, 14, 22);
            x.pre(4, NONE);
            point(x, 200, 200);
            x.run(2, steps);
            boolean due = steps == 9;
            x.pre(4, 1);
            Check.same("after pre()", x.closed(), due);
            Check.state("stitch()", () -> Check.flag(x.stitch(0, 5, true)));
            Check.same("after stitch()", x.closed(), due);
            x.near();
            x.pair(0, 0);
            x.colour(0);
            x.length();
            x.stitches();
            x.balance(0, 0);
            Check.same("after what only asks", x.closed(), due);
            x.shape();
            x.corner(6, 0, 0);
            Check.same("after shape() and corner()", x.closed(), due);
        }
    }

    static void promise15_clearMakesItFalse() {
        ColourParts x = row(2);
        x.run(2, 2);
        x.clear();
        Check.same("closed()", x.closed(), false);
        x.run(2, 0);
        Check.same("closed()", x.closed(), true);
        x.clear();
        Check.same("closed()", x.closed(), false);
    }
}
