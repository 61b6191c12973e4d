/** Promise 1, a new object: "No shapes; so much distance (1 .. 65536, the nearest)." */
public final class Promise01Test extends Layout {
    public static void main(String[] args) {
        Sentences.check(Promise01Test.class, "promise01");
    }

    private static void acts(long told, long as) {
        for (long gap : new long[] {0, as - 1, as, as + 1}) {
            ColourParts x = new ColourParts(told);
            point(x, 0, 0);
            point(x, gap, 0);
            point(x, 0, -200000);
            point(x, 0, -200000 - gap);
            Check.same("distance " + told + ", gap " + gap, x.near(), gap < as ? 2 : 0);
        }
    }

    static void promise01_noShapes_nothingCanBeAsked() {
        ColourParts x = new ColourParts(7);
        pairs(x);
        ring(x);
        nothingKept(x, 0);
        Check.same("closed()", x.closed(), false);
        for (int s : new int[] {-1, 0, 1, 9, 10, LEAST, MOST}) {
            Check.place("colour(" + s + ")", () -> x.colour(s));
            Check.place("used(" + s + ", 0)", () -> Check.flag(x.used(s, 0)));
            Check.place("corner(" + s + ")", () -> Check.flag(x.corner(s, 0, 0)));
            Check.place("pre(" + s + ")", () -> Check.flag(x.pre(s, 0)));
            Check.place("stitch(" + s + ")", () -> Check.flag(x.stitch(s, 0, true)));
        }
    }

    static void promise01_noShapes_aRunIsGood() {
        for (int colours = 2; colours <= 4; colours++) {
            ColourParts x = new ColourParts(7);
            Check.same("run()", x.run(colours, 0), 0);
            Check.same("closed()", x.closed(), true);
            nothingKept(x, 0);
            ring(x);
        }
    }

    static void promise01_noShapes_theFirstIs0() {
        Check.same("shape()", new ColourParts(7).shape(), 0);
    }

    static void promise01_distance_theLeastIs1() {
        acts(1, 1);
        acts(2, 2);
    }

    static void promise01_distance_theGreatestIs65536() {
        acts(65536, 65536);
        acts(65535, 65535);
    }

    static void promise01_distance_below1TheNearestIs1() {
        for (long told : new long[] {0, -1, -2, -65536, LEAST, -WRAP, 5 - WRAP, Long.MIN_VALUE, Long.MIN_VALUE + 9}) {
            acts(told, 1);
        }
    }

    static void promise01_distance_above65536TheNearestIs65536() {
        for (long told : new long[] {65537, 65538, 131072, MOST, WRAP, WRAP + 1, WRAP + 5, Long.MAX_VALUE}) {
            acts(told, 65536);
        }
    }

    static void promise01_distance_thoseBetweenAsTheyAre() {
        for (long told : new long[] {3, 4, 10, 127, 128, 255, 256, 32767, 32768, 46340, 46341, 65534}) {
            acts(told, told);
        }
    }

    static void promise01_twoObjectsHaveNothingInCommon() {
        ColourParts x = new ColourParts(1);
        ColourParts y = new ColourParts(3);
        point(x, 0, 0);
        Check.place("the other has no shape", () -> y.colour(0));
        point(x, 2, 0);
        point(y, 0, 0);
        point(y, 2, 0);
        Check.same("near()", x.near(), 0);
        Check.same("near()", y.near(), 1);
        x.pre(0, 1);
        x.run(2, 2);
        Check.same("the other is not closed", y.closed(), false);
        nothingKept(y, 2);
        y.clear();
        colours(x, 1, 0);
    }
}
