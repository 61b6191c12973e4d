/** Promise 16, clear: "No shapes, nothing kept, no ring; closed() is false." What it leaves is the distance alone. */
public final class Promise16Test extends Layout {
    private static final long DISTANCE = 4;

    public static void main(String[] args) {
        Sentences.check(Promise16Test.class, "promise16");
    }

    private static void kept(ColourParts x) {
        box(x, 0, 0, 20, 2);
        standing(x, 0, 5, 10, 15);
        x.pre(point(x, 0, 0), 0);
        x.pre(point(x, 20, 0), 1);
        x.run(2, 6);
    }

    private static void ringed(ColourParts x) {
        heap(x, 4);
        x.run(2, 4);
    }

    private static void half(ColourParts x) {
        kept(x);
        x.shape();
        x.corner(3, 7, 7);
    }

    private static void full(ColourParts x) {
        points(x, 8);
        box(x, 0, 0, 5, 5);
        box(x, 0, 0, 5, 5);
        standing(x, 8, 2);
        lying(x, 9, 2);
        x.run(2, 12);
    }

    /** After clear() the object answers as a new one of the same distance, whatever was told before. */
    static void promise16_asANewOne() {
        Story[] all = {x -> x.near(), Promise16Test::kept, Promise16Test::ringed, Promise16Test::half, Promise16Test::full,
            x -> x.run(2, 0)};
        Story[] next = {x -> x.near(), Promise16Test::kept, Promise16Test::ringed, Promise16Test::half, Promise16Test::full};
        for (Story before : all) {
            for (Story after : next) {
                for (Probe probe : Probe.values()) {
                    ColourParts x = told(DISTANCE, before);
                    x.clear();
                    after.tell(x);
                    Check.sameText("cleared, then " + probe, probe.answers(x, true),
                        probe.answers(told(DISTANCE, after), true));
                }
            }
        }
    }

    static void promise16_noShapes() {
        Story[] all = {Promise16Test::kept, Promise16Test::ringed, Promise16Test::half, Promise16Test::full};
        for (Story before : all) {
            ColourParts x = told(DISTANCE, before);
            x.clear();
            Check.place("shape 0", () -> x.colour(0));
            Check.place("shape 0", () -> Check.flag(x.corner(0, 1, 1)));
            Check.place("shape 0", () -> Check.flag(x.pre(0, NONE)));
            pairs(x);
            Check.same("run with no steps", x.run(2, 0), 0);
            for (int s = 0; s < 10; s++) {
                Check.same("shape()", x.shape(), s);
            }
            Check.state("an eleventh", () -> x.shape());
        }
    }

    static void promise16_nothingKept() {
        ColourParts x = told(DISTANCE, Promise16Test::kept);
        Check.same("stitches() before", x.stitches() > 0, true);
        x.clear();
        nothingKept(x, 0);
        box(x, 0, 0, 20, 2);
        standing(x, 0, 5, 10, 15);
        nothingKept(x, 1);
    }

    static void promise16_nothingTold() {
        ColourParts x = told(DISTANCE, Promise16Test::kept);
        x.clear();
        for (int s = 0; s < 3; s++) {
            box(x, 0, 10 * s, 20, 10 * s + 2);
            Check.same("no colour is told", x.pre(s, NONE), false);
            Check.same("no stitch is there", x.stitch(s, 5, true), true);
        }
    }

    static void promise16_noRing() {
        ColourParts x = told(DISTANCE, Promise16Test::ringed);
        Check.same("length() before", x.length(), 3);
        x.clear();
        ring(x);
        heap(x, 4);
        ring(x);
    }

    static void promise16_closedIsFalse() {
        ColourParts x = told(DISTANCE, Promise16Test::kept);
        Check.same("closed() before", x.closed(), true);
        x.clear();
        Check.same("closed()", x.closed(), false);
    }

    static void promise16_noHalfABox() {
        ColourParts x = told(DISTANCE, Promise16Test::half);
        Check.state("near() before", () -> x.near());
        x.clear();
        Check.same("near()", x.near(), 0);
        for (int s = 0; s < 4; s++) {
            x.shape();
            Check.same("a first corner", x.corner(s, 7, 7), false);
        }
    }

    static void promise16_theDistanceStays() {
        for (long distance : new long[] {0, 1, 4, 65536, Long.MAX_VALUE}) {
            long as = Math.max(1, Math.min(65536, distance));
            ColourParts x = new ColourParts(distance);
            x.clear();
            point(x, 0, 0);
            point(x, as - 1, 0);
            point(x, 0, as);
            pairs(x, 0, 1);
        }
    }

    static void promise16_againAndAgain() {
        ColourParts x = new ColourParts(DISTANCE);
        for (int i = 0; i < 20; i++) {
            x.clear();
            x.clear();
            ringed(x);
            ring(x, 0, 1, 2);
        }
    }
}
