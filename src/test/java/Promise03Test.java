/** Promise 3, corner: "One more corner of a shape: whether a box is whole by that." and what it refuses. */
public final class Promise03Test extends Layout {
    public static void main(String[] args) {
        Sentences.check(Promise03Test.class, "promise03");
    }

    static void promise03_whetherABoxIsWholeByThat() {
        ColourParts x = new ColourParts(1);
        x.shape();
        for (int i = 0; i < 8; i++) {
            Check.same("corner " + i, x.corner(0, 7, 7), i % 2 == 1);
        }
    }

    static void promise03_whetherABoxIsWholeByThat_notOverTwoShapes() {
        ColourParts x = new ColourParts(1);
        for (int s = 0; s < 10; s++) {
            x.shape();
        }
        for (int s = 0; s < 10; s++) {
            Check.same("the first of " + s, x.corner(s, 10 * s, 0), false);
        }
        for (int s = 9; s >= 0; s--) {
            Check.same("the second of " + s, x.corner(s, 10 * s + 2, 3), true);
        }
        pairs(x);
        x.run(2, 10);
        areas(x, 60);
    }

    static void promise03_theLeastAndTheGreatestNumbers() {
        ColourParts x = new ColourParts(1);
        x.shape();
        more(x, 0, -1000000, 1000000, 1000000, -1000000);
        more(x, 0, 1000000, 1000000, -1000000, -1000000);
        point(x, 1000000, 1000000);
        point(x, -1000000, 1000000);
        pairs(x, 0, 1, 0, 2);
        x.run(2, 3);
        areas(x, 8000000000000L);
    }

    static void promise03_noSuchShape() {
        Story story = x -> {
            points(x, 3);
            x.shape();
            x.corner(3, 9, 9);
        };
        for (int s : new int[] {-1, 4, 10, LEAST, MOST, 65536}) {
            refused(Check.PLACE, "corner(" + s + ", 3, 4)", 1, story, x -> Check.flag(x.corner(s, 3, 4)));
        }
    }

    static void promise03_ithas4Boxes() {
        Story three = x -> {
            x.shape();
            for (int b = 0; b < 3; b++) {
                more(x, 0, 9 * b, 0, 9 * b + 4, 4);
            }
        };
        ColourParts x = told(1, three);
        Check.same("the fourth box's first corner", x.corner(0, 40, 0), false);
        Check.same("and its second one", x.corner(0, 44, 4), true);
        Story four = y -> {
            three.tell(y);
            more(y, 0, 40, 0, 44, 4);
        };
        refused(Check.STATE, "a fifth box", 1, four, y -> Check.flag(y.corner(0, 50, 0)));
        refused(Check.STATE, "a fifth box of the same corner", 1, four, y -> Check.flag(y.corner(0, 0, 0)));
    }

    static void promise03_orStitches() {
        for (int many = 1; many <= 3; many++) {
            for (boolean across : new boolean[] {false, true}) {
                int stitches = many;
                Story story = x -> {
                    box(x, 0, 0, 10, 10);
                    point(x, 9, 9);
                    for (int k = 1; k <= stitches; k++) {
                        x.stitch(0, 2 * k, across);
                    }
                };
                refused(Check.STATE, many + " stitches", 1, story, x -> Check.flag(x.corner(0, 5, 5)));
                ColourParts x = told(1, story);
                Check.same("another without stitches", x.corner(1, 5, 5), false);
                Check.state("one is open", () -> x.near());
            }
        }
    }

    static void promise03_aRefusedStitchIsNone() {
        ColourParts x = row(1);
        Check.argument("stitch()", () -> Check.flag(x.stitch(0, 1, true)));
        Check.same("so there may be more corners", x.corner(0, 5, 5), false);
        Check.state("stitch() of an open one", () -> Check.flag(x.stitch(0, 1, true)));
        Check.same("so there may be more corners", x.corner(0, 6, 6), true);
    }

    static void promise03_theFirstWrongNumbers() {
        Story whole = x -> box(x, 3, 3, 4, 4);
        Story half = x -> {
            box(x, 3, 3, 4, 4);
            x.corner(0, 7, 7);
        };
        for (Story story : new Story[] {whole, half}) {
            for (long far : new long[] {-1000001, 1000001, Long.MIN_VALUE, Long.MAX_VALUE, WRAP, -WRAP}) {
                refused(Check.ARGUMENT, "x " + far, 1, story, x -> Check.flag(x.corner(0, far, 1000000)));
                refused(Check.ARGUMENT, "y " + far, 1, story, x -> Check.flag(x.corner(0, -1000000, far)));
            }
        }
        ColourParts x = told(1, half);
        Check.argument("too far", () -> Check.flag(x.corner(0, 1000001, 0)));
        Check.same("the first corner is still there", x.corner(0, 9, 10), true);
        x.run(2, 1);
        areas(x, 1 + 6);
    }

    static void promise03_whatWasKeptStays() {
        ColourParts x = row(2);
        x.run(2, 2);
        more(x, 0, 1, 0, 5, 1);
        more(x, 1, 100, 100, 120, 120);
        colours(x, 0, 1);
        counts(x, 1, 1);
        areas(x, 1, 1);
        x.run(2, 2);
        areas(x, 5, 401);
    }
}
