/** The sentences under 'Terms' on what methods throw, and that a call that throws changes nothing. */
public final class ThrowsTest extends Layout {
    public static void main(String[] args) {
        Sentences.check(ThrowsTest.class, "throws");
    }

    /** A bar cut twice between points told 0 and 1, and a shape of two boxes: a colouring is kept, a stitch used. */
    private static void kept(ColourParts x) {
        box(x, 0, 0, 10, 2);
        standing(x, 0, 3, 6);
        point(x, 1, 2);
        point(x, 9, 2);
        x.pre(1, 0);
        x.pre(2, 1);
        box(x, 20, 0, 22, 2);
        more(x, 3, 22, 2, 25, 5);
        x.run(2, 9);
    }

    /** Four shapes near each other and one that is told 3: a ring is there, no colouring. */
    private static void ringed(ColourParts x) {
        heap(x, 3);
        box(x, 5, 5, 9, 9);
        point(x, 90, 90);
        x.pre(4, 3);
        x.run(2, 12);
    }

    /** As kept, but the latest run() had too few steps. */
    private static void notClosed(ColourParts x) {
        kept(x);
        x.run(3, 1);
    }

    /** As kept, and then a shape with half a box. */
    private static void half(ColourParts x) {
        kept(x);
        x.shape();
        x.corner(4, 3, 2);
    }

    /** As ringed, and then a shape without any box. */
    private static void empty(ColourParts x) {
        ringed(x);
        x.shape();
    }

    private static void tenShapes(ColourParts x) {
        points(x, 8);
        box(x, 0, 0, 9, 9);
        box(x, 100, 0, 109, 9);
        x.pre(9, 2);
        x.run(3, 10);
    }

    private static void twelvePieces(ColourParts x) {
        for (int s = 0; s < 4; s++) {
            box(x, 0, 9 * s, 10, 9 * s + 9);
        }
        standing(x, 0, 3, 5, 7);
        standing(x, 1, 4);
        lying(x, 2, 19, 20);
        lying(x, 3, 28, 30);
        x.run(2, 12);
    }

    private static final String[] NAMES = {"kept", "ringed", "not closed", "half", "empty", "ten shapes", "twelve pieces"};

    private static Story[] all() {
        return new Story[] {ThrowsTest::kept, ThrowsTest::ringed, ThrowsTest::notClosed, ThrowsTest::half,
            ThrowsTest::empty, ThrowsTest::tenShapes, ThrowsTest::twelvePieces};
    }

    private static int count(Story story) {
        ColourParts x = told(1, story);
        for (int s = 0; s < 10; s++) {
            int one = s;
            if (Check.outcome(() -> x.colour(one)).contains("throws")) {
                return s;
            }
        }
        return 10;
    }

    static void throws_stories_areWhatTheySay() {
        int[] counts = {4, 5, 4, 5, 6, 10, 4};
        for (int i = 0; i < NAMES.length; i++) {
            Check.same(NAMES[i], count(all()[i]), counts[i]);
        }
        Check.same("kept uses a stitch", told(1, ThrowsTest::kept).stitches(), 1);
        Check.same("ringed has a ring", told(1, ThrowsTest::ringed).length(), 3);
        Check.same("not closed keeps one", told(1, ThrowsTest::notClosed).stitches(), 1);
        Check.same("not closed", told(1, ThrowsTest::notClosed).closed(), false);
        Check.state("half", () -> told(1, ThrowsTest::half).near());
        Check.state("empty", () -> told(1, ThrowsTest::empty).near());
        Check.state("ten shapes", () -> told(1, ThrowsTest::tenShapes).shape());
        Check.state("twelve pieces", () -> told(1, ThrowsTest::twelvePieces).shape());
    }

    private static void everywhere(String due, String name, Use call) {
        for (int i = 0; i < NAMES.length; i++) {
            refused(due, NAMES[i] + ": " + name, 1, all()[i], call);
        }
    }

    // No such shape, place or side.

    static void throws_aCallThatThrowsChangesNothing_noSuchShape() {
        for (int i = 0; i < NAMES.length; i++) {
            Story story = all()[i];
            for (int s : new int[] {-1, LEAST, count(story), MOST}) {
                String name = NAMES[i] + ", shape " + s + ": ";
                refused(Check.PLACE, name + "corner()", 1, story, x -> Check.flag(x.corner(s, 3, 4)));
                refused(Check.PLACE, name + "colour()", 1, story, x -> x.colour(s));
                refused(Check.PLACE, name + "pre()", 1, story, x -> Check.flag(x.pre(s, 1)));
                refused(Check.PLACE, name + "stitch()", 1, story, x -> Check.flag(x.stitch(s, 4, true)));
                refused(Check.PLACE, name + "used()", 1, story, x -> Check.flag(x.used(s, 0)));
            }
        }
    }

    static void throws_aCallThatThrowsChangesNothing_noSuchPlaceOrSide() {
        for (int k : new int[] {-1, LEAST, 12, MOST}) {
            everywhere(Check.PLACE, "ring(" + k + ")", x -> x.ring(k));
            everywhere(Check.PLACE, "used(0, " + k + ")", x -> Check.flag(x.used(0, k)));
        }
        for (int k : new int[] {-1, LEAST}) {
            everywhere(Check.PLACE, "pair(" + k + ", 0)", x -> x.pair(k, 0));
        }
        for (int side : new int[] {-1, 2, LEAST, MOST}) {
            everywhere(Check.PLACE, "pair(0, " + side + ")", x -> x.pair(0, side));
            everywhere(Check.PLACE, "balance(0, " + side + ")", x -> x.balance(0, side));
        }
    }

    // As many as there can be, or a shape is open.

    static void throws_aCallThatThrowsChangesNothing_asManyAsThereCanBe() {
        refused(Check.STATE, "shape()", 1, ThrowsTest::tenShapes, x -> x.shape());
        refused(Check.STATE, "shape()", 1, ThrowsTest::twelvePieces, x -> x.shape());
        refused(Check.STATE, "a fourth stitch", 1, ThrowsTest::twelvePieces, x -> Check.flag(x.stitch(0, 4, true)));
        refused(Check.STATE, "a 13th piece", 1, ThrowsTest::twelvePieces, x -> Check.flag(x.stitch(1, 5, true)));
        refused(Check.STATE, "a 13th piece", 1, ThrowsTest::twelvePieces, x -> Check.flag(x.stitch(1, 12, false)));
        refused(Check.STATE, "a stitch of two boxes", 1, ThrowsTest::kept, x -> Check.flag(x.stitch(3, 21, true)));
        refused(Check.STATE, "a corner with stitches", 1, ThrowsTest::kept, x -> Check.flag(x.corner(0, 3, 4)));
        refused(Check.STATE, "a corner with stitches", 1, ThrowsTest::half, x -> Check.flag(x.corner(0, 3, 4)));
    }

    static void throws_aCallThatThrowsChangesNothing_aFifthBox() {
        Story story = x -> {
            kept(x);
            more(x, 3, 0, 90, 4, 94);
            more(x, 3, 0, 80, 4, 84);
        };
        refused(Check.STATE, "a fifth box", 1, story, x -> Check.flag(x.corner(3, 3, 4)));
    }

    static void throws_aCallThatThrowsChangesNothing_aShapeIsOpen() {
        Story[] stories = {ThrowsTest::half, ThrowsTest::empty};
        for (Story story : stories) {
            refused(Check.STATE, "near()", 1, story, x -> x.near());
            refused(Check.STATE, "run()", 1, story, x -> x.run(2, 12));
            refused(Check.STATE, "run() with too few steps", 1, story, x -> x.run(2, 0));
            refused(Check.STATE, "pre() of a closed one", 1, story, x -> Check.flag(x.pre(1, 3)));
            refused(Check.STATE, "pre() of a closed one", 1, story, x -> Check.flag(x.pre(1, NONE)));
            refused(Check.STATE, "pre() of the open one", 1, story, x -> Check.flag(x.pre(4, 3)));
            refused(Check.STATE, "stitch() of a closed one", 1, story, x -> Check.flag(x.stitch(0, 4, true)));
            refused(Check.STATE, "stitch() there is", 1, story, x -> Check.flag(x.stitch(0, 3, true)));
            refused(Check.STATE, "stitch() of the open one", 1, story, x -> Check.flag(x.stitch(4, 3, true)));
            refused(Check.STATE, "pair()", 1, story, x -> x.pair(0, 0));
            refused(Check.STATE, "pair() behind the last", 1, story, x -> x.pair(MOST, 1));
        }
    }

    // A number that is none such.

    static void throws_aCallThatThrowsChangesNothing_noSuchNumber() {
        Story[] stories = {ThrowsTest::kept, ThrowsTest::ringed, ThrowsTest::notClosed, ThrowsTest::tenShapes,
            ThrowsTest::twelvePieces};
        for (Story story : stories) {
            for (int number : new int[] {-2, 4, LEAST, MOST}) {
                refused(Check.ARGUMENT, "pre(1, " + number + ")", 1, story, x -> Check.flag(x.pre(1, number)));
            }
            for (int colours : new int[] {-1, 0, 1, 5, LEAST, MOST}) {
                refused(Check.ARGUMENT, "run(" + colours + ", 12)", 1, story, x -> x.run(colours, 12));
                refused(Check.ARGUMENT, "run(" + colours + ", 0)", 1, story, x -> x.run(colours, 0));
            }
            for (long steps : new long[] {-1, Long.MIN_VALUE, -WRAP, 12 - WRAP}) {
                refused(Check.ARGUMENT, "run(2, " + steps + ")", 1, story, x -> x.run(2, steps));
            }
        }
        for (int colour : new int[] {-1, -2, 4, LEAST, MOST}) {
            everywhere(Check.ARGUMENT, "balance(" + colour + ", 1)", x -> x.balance(colour, 1));
        }
    }

    static void throws_aCallThatThrowsChangesNothing_noSuchCorner() {
        Story[] stories = {ThrowsTest::half, ThrowsTest::empty};
        for (Story story : stories) {
            for (long far : new long[] {-1000001, 1000001, Long.MIN_VALUE, Long.MAX_VALUE}) {
                for (int s = 1; s <= 4; s++) {
                    int one = s;
                    refused(Check.ARGUMENT, "corner(" + s + ")", 1, story, x -> Check.flag(x.corner(one, far, 4)));
                    refused(Check.ARGUMENT, "corner(" + s + ")", 1, story, x -> Check.flag(x.corner(one, 4, far)));
                }
            }
        }
    }

    static void throws_aCallThatThrowsChangesNothing_noSuchStitch() {
        for (long at : new long[] {-1, 0, 10, 11, Long.MIN_VALUE, Long.MAX_VALUE}) {
            refused(Check.ARGUMENT, "stitch(0, " + at + ")", 1, ThrowsTest::kept, x -> Check.flag(x.stitch(0, at, true)));
        }
        for (long at : new long[] {-1, 0, 1, 2, 3, 6}) {
            refused(Check.ARGUMENT, "lying " + at, 1, ThrowsTest::kept, x -> Check.flag(x.stitch(0, at, false)));
        }
        refused(Check.ARGUMENT, "of a point", 1, ThrowsTest::kept, x -> Check.flag(x.stitch(1, 1, true)));
        refused(Check.ARGUMENT, "the border", 1, ThrowsTest::ringed, x -> Check.flag(x.stitch(3, 5, true)));
        refused(Check.ARGUMENT, "the border", 1, ThrowsTest::ringed, x -> Check.flag(x.stitch(3, 9, false)));
    }

    // The one named first when several would do.

    static void throws_theOneNamedFirst_corner() {
        ColourParts x = told(1, ThrowsTest::kept);
        Check.place("no shape, and too far", () -> Check.flag(x.corner(4, 1000001, 0)));
        Check.place("no shape, and too far", () -> Check.flag(x.corner(-1, 0, Long.MIN_VALUE)));
        Check.state("stitches, and too far", () -> Check.flag(x.corner(0, 1000001, 0)));
        Check.state("stitches, and too far", () -> Check.flag(x.corner(0, 0, -1000001)));
        more(x, 3, 50, 50, 51, 51);
        more(x, 3, 60, 50, 61, 51);
        Check.state("four boxes, and too far", () -> Check.flag(x.corner(3, 1000001, 0)));
        Check.state("four boxes, and too far", () -> Check.flag(x.corner(3, 0, Long.MAX_VALUE)));
    }

    static void throws_theOneNamedFirst_run() {
        ColourParts x = told(1, ThrowsTest::half);
        Check.state("open, and no such colours", () -> x.run(1, 9));
        Check.state("open, and no such colours", () -> x.run(5, 9));
        Check.state("open, and no such steps", () -> x.run(2, -1));
        Check.state("open, and neither", () -> x.run(MOST, Long.MIN_VALUE));
    }

    static void throws_theOneNamedFirst_pre() {
        ColourParts x = told(1, ThrowsTest::half);
        Check.place("no shape, and one is open", () -> Check.flag(x.pre(5, 0)));
        Check.place("no shape, open, no colour", () -> Check.flag(x.pre(-1, 4)));
        Check.state("open, and no colour", () -> Check.flag(x.pre(0, 4)));
        Check.state("open, and no colour", () -> Check.flag(x.pre(4, -2)));
        ColourParts y = told(1, ThrowsTest::kept);
        Check.place("no shape, and no colour", () -> Check.flag(y.pre(4, 4)));
        Check.place("no shape, and no colour", () -> Check.flag(y.pre(-1, -2)));
    }

    static void throws_theOneNamedFirst_stitch() {
        ColourParts x = told(1, ThrowsTest::half);
        Check.place("no shape, and one is open", () -> Check.flag(x.stitch(5, 1, true)));
        Check.state("open, and not within", () -> Check.flag(x.stitch(0, 10, true)));
        Check.state("open, and the other way", () -> Check.flag(x.stitch(0, 1, false)));
        ColourParts y = told(1, ThrowsTest::kept);
        Check.place("no shape, and not within", () -> Check.flag(y.stitch(4, 99, true)));
        Check.state("two boxes, and not within", () -> Check.flag(y.stitch(3, 99, true)));
        y.stitch(0, 7, true);
        Check.state("three stitches, and not within", () -> Check.flag(y.stitch(0, 10, true)));
        Check.state("three stitches, and the other way", () -> Check.flag(y.stitch(0, 1, false)));
        ColourParts z = told(1, ThrowsTest::twelvePieces);
        Check.state("12 pieces, and not within", () -> Check.flag(z.stitch(1, 10, true)));
        Check.state("12 pieces, and the other way", () -> Check.flag(z.stitch(1, 12, false)));
        Check.place("12 pieces, and no shape", () -> Check.flag(z.stitch(4, 5, true)));
    }

    static void throws_theOneNamedFirst_balance() {
        Story[] all = all();
        for (int i = 0; i < all.length; i++) {
            ColourParts x = told(1, all[i]);
            Check.place("no part, and no colour", () -> x.balance(4, 2));
            Check.place("no part, and no colour", () -> x.balance(-1, -1));
            Check.place("no part, and no colour", () -> x.balance(LEAST, MOST));
        }
    }

    static void throws_theOneNamedFirst_pair() {
        for (Story story : new Story[] {ThrowsTest::half, ThrowsTest::empty}) {
            ColourParts x = told(1, story);
            Check.place("no pair, and one is open", () -> x.pair(-1, 0));
            Check.place("no side, and one is open", () -> x.pair(0, 2));
            Check.place("no side, and one is open", () -> x.pair(0, -1));
            Check.place("neither, and one is open", () -> x.pair(LEAST, MOST));
        }
    }

    // A shape is open, for all that name IllegalStateException but shape() and corner().

    static void throws_open_shapeAndCornerAreFree() {
        ColourParts x = told(1, ThrowsTest::half);
        Check.same("shape()", x.shape(), 5);
        Check.same("corner() of a closed one", x.corner(3, 40, 40), false);
        Check.same("corner() of a closed one", x.corner(3, 44, 44), true);
        Check.same("corner() of an open one", x.corner(5, 0, 40), false);
        Check.same("corner() of an open one", x.corner(4, 0, 44), true);
        Check.same("corner() of an open one", x.corner(5, 0, 40), true);
        Check.same("none is open now", x.run(3, 8), 0);
    }

    static void throws_open_whatDoesNotNameItIsFree() {
        ColourParts x = told(1, ThrowsTest::half);
        colours(x, 1, 0, 1, 0, NONE);
        used(x, 0, 1, 0);
        Check.same("stitches()", x.stitches(), 1);
        counts(x, 4, 2);
        areas(x, 14 + 13, 6);
        Check.same("closed()", x.closed(), true);
        ColourParts y = told(1, ThrowsTest::empty);
        ring(y, 0, 1, 2);
        Check.same("closed()", y.closed(), true);
        y.clear();
        Check.same("cleared", y.near(), 0);
    }
}
