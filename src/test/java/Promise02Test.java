/** Promise 2, shape: "A new shape, without boxes: its number. ISE: there are 10, or 12 pieces." */
public final class Promise02Test extends Layout {
    public static void main(String[] args) {
        Sentences.check(Promise02Test.class, "promise02");
    }

    private static void cutOnes(ColourParts x, int... stitches) {
        for (int s = 0; s < stitches.length; s++) {
            box(x, 0, 20 * s, 10, 20 * s + 10);
            for (int k = 1; k <= stitches[s]; k++) {
                x.stitch(s, k, true);
            }
        }
    }

    static void promise02_itsNumber_oneAfterTheOther() {
        ColourParts x = new ColourParts(1);
        for (int s = 0; s < 10; s++) {
            Check.same("shape()", x.shape(), s);
            more(x, s, 0, 10 * s, 5, 10 * s + 5);
        }
    }

    static void promise02_withoutBoxes_soItIsOpen() {
        ColourParts x = told(1, y -> points(y, 2));
        Check.same("shape()", x.shape(), 2);
        Check.state("near()", () -> x.near());
        Check.same("the first corner of its first box", x.corner(2, 0, 0), false);
        Check.state("near()", () -> x.near());
        Check.same("the second one", x.corner(2, 0, 0), true);
        pairs(x, 0, 2);
    }

    static void promise02_aNewShapeHasNothingTold() {
        ColourParts x = row(1);
        x.pre(0, 1);
        box(x, 5, 5, 9, 9);
        Check.same("no colour", x.pre(1, NONE), false);
        Check.same("no stitch", x.stitch(1, 7, true), true);
        Check.same("colour of none kept", x.colour(1), NONE);
    }

    static void promise02_thereAre10() {
        Story nine = x -> points(x, 9);
        Check.same("a tenth", told(1, nine).shape(), 9);
        Story ten = x -> points(x, 10);
        refused(Check.STATE, "an eleventh", 1, ten, x -> x.shape());
        ColourParts x = told(1, ten);
        for (int i = 0; i < 5; i++) {
            Check.state("an eleventh", () -> x.shape());
        }
        Check.place("shape 10", () -> x.colour(10));
        Check.same("run(2, 10)", x.run(2, 10), 0);
    }

    static void promise02_thereAre10_allOfThemOpen() {
        Story ten = x -> {
            for (int s = 0; s < 10; s++) {
                x.shape();
            }
        };
        refused(Check.STATE, "an eleventh", 1, ten, x -> x.shape());
    }

    static void promise02_12Pieces() {
        int[][] full = {{3, 3, 3}, {3, 3, 1, 1}, {3, 3, 2, 0}, {1, 1, 1, 1, 1, 1}, {3, 0, 0, 0, 0, 0, 0, 0, 0},
            {0, 0, 0, 0, 0, 0, 1, 1, 1}, {2, 2, 2, 2}};
        for (int[] stitches : full) {
            Story story = x -> cutOnes(x, stitches);
            refused(Check.STATE, "a thirteenth piece", 1, story, x -> x.shape());
        }
    }

    static void promise02_11PiecesAreNot12() {
        int[][] almost = {{3, 3, 2}, {3, 3, 1, 0}, {1, 1, 1, 1, 1, 0}, {2, 0, 0, 0, 0, 0, 0, 0, 0}, {2, 2, 2, 1}};
        for (int[] stitches : almost) {
            ColourParts x = told(1, y -> cutOnes(y, stitches));
            Check.same("the twelfth piece", x.shape(), stitches.length);
            Check.state("a thirteenth", () -> x.shape());
        }
    }

    static void promise02_10And12Pieces() {
        Story story = x -> cutOnes(x, 1, 1, 0, 0, 0, 0, 0, 0, 0, 0);
        refused(Check.STATE, "an eleventh shape", 1, story, x -> x.shape());
    }

    static void promise02_whatWasKeptStays() {
        ColourParts x = row(3);
        x.run(2, 3);
        x.shape();
        colours(x, 0, 1, 0, NONE);
        Check.same("closed()", x.closed(), true);
        counts(x, 2, 1);
        ColourParts y = told(1, z -> heap(z, 3));
        y.run(2, 3);
        y.shape();
        ring(y, 0, 1, 2);
    }
}
