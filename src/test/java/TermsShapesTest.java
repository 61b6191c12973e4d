/** The sentences under 'Terms' on shapes, boxes, corners and what is open. */
public final class TermsShapesTest extends Layout {
    public static void main(String[] args) {
        Sentences.check(TermsShapesTest.class, "terms");
    }

    private static void open(String name, ColourParts x, int s) {
        Check.state(name + ": near()", () -> x.near());
        Check.state(name + ": run(2, 12)", () -> x.run(2, 12));
        Check.state(name + ": pre()", () -> Check.flag(x.pre(s, 0)));
        Check.state(name + ": stitch()", () -> Check.flag(x.stitch(s, 5, true)));
        Check.state(name + ": pair(0, 0)", () -> x.pair(0, 0));
    }

    private static void notOpen(String name, ColourParts x, int s) {
        Check.sameText(name + ": near()", Check.outcome(() -> x.near()), "0");
        Check.sameText(name + ": run(2, 12)", Check.outcome(() -> x.run(2, 12)), "0");
        Check.sameText(name + ": pre()", Check.outcome(() -> Check.flag(x.pre(s, NONE))), "0");
        Check.sameText(name + ": pair(0, 0)", Check.outcome(() -> x.pair(0, 0)), "-1");
    }

    static void terms_shapes0To9_theNumbersInTurn() {
        ColourParts x = new ColourParts(1);
        for (int s = 0; s <= 9; s++) {
            Check.same("shape()", x.shape(), s);
        }
        Check.state("an eleventh", () -> x.shape());
    }

    static void terms_shapes0To9_shape0IsOneForAllCalls() {
        everyCallTakes(1, 0);
    }

    static void terms_shapes0To9_shape9IsOneForAllCalls() {
        everyCallTakes(10, 9);
    }

    private static void everyCallTakes(int many, int s) {
        ColourParts x = new ColourParts(1);
        for (int i = 0; i < many; i++) {
            x.shape();
        }
        for (int i = 0; i < many; i++) {
            more(x, i, 20 * i, 0, 20 * i + 10, 2);
        }
        Check.same("pre()", x.pre(s, 1), true);
        Check.same("stitch()", x.stitch(s, 20 * s + 5, true), true);
        Check.same("run()", x.run(2, 11), 0);
        Check.same("colour()", x.colour(s), 1);
        Check.same("used()", x.used(s, 0), false);
        x.clear();
        for (int i = 0; i < many; i++) {
            point(x, 20 * i, 0);
        }
        more(x, 0, 20 * s, 0, 20 * s, 1);
        pairs(x, s == 0 ? new int[0] : new int[] {0, s});
    }

    static void terms_shapes0To9_noneBelow0() {
        for (int many : new int[] {0, 1, 5, 10}) {
            for (int s : new int[] {-1, -2, -10, LEAST, LEAST + 1}) {
                noSuchShape(many, s);
            }
        }
    }

    static void terms_shapes0To9_noneBehindTheLatest() {
        for (int many = 0; many <= 10; many++) {
            for (int s : new int[] {many, many + 1, 10, 11, 32, 65536, MOST - 1, MOST}) {
                noSuchShape(many, s);
            }
        }
    }

    private static void noSuchShape(int many, int s) {
        ColourParts x = told(1, y -> points(y, many));
        x.run(2, 12);
        String name = "shape " + s + " of " + many;
        Check.place(name + ": corner()", () -> Check.flag(x.corner(s, 0, 0)));
        Check.place(name + ": colour()", () -> x.colour(s));
        Check.place(name + ": pre()", () -> Check.flag(x.pre(s, 0)));
        Check.place(name + ": stitch()", () -> Check.flag(x.stitch(s, 0, true)));
        Check.place(name + ": used()", () -> Check.flag(x.used(s, 0)));
    }

    static void terms_boxes1To4_eachNumberIsGood() {
        for (int many = 1; many <= 4; many++) {
            ColourParts x = new ColourParts(1);
            x.shape();
            for (int b = 0; b < many; b++) {
                more(x, 0, 10 * b, 0, 10 * b + 3, 2);
            }
            Check.same("run()", x.run(2, 1), 0);
            counts(x, 1);
            areas(x, 6 * many);
        }
    }

    static void terms_boxes1To4_noneIsTooFew() {
        ColourParts x = new ColourParts(1);
        x.shape();
        open("no box", x, 0);
    }

    static void terms_boxes1To4_aFifthIsRefused() {
        Story four = x -> {
            x.shape();
            for (int b = 0; b < 4; b++) {
                more(x, 0, 3 * b, 0, 3 * b + 1, 2);
            }
            point(x, 4, 2);
            x.run(2, 2);
        };
        refused(Check.STATE, "a fifth box", 1, four, x -> Check.flag(x.corner(0, 20, 20)));
        ColourParts x = told(1, four);
        for (int i = 0; i < 3; i++) {
            Check.state("a fifth box", () -> Check.flag(x.corner(0, 20, 20)));
        }
        Check.same("another shape still may have more", x.corner(1, 7, 2), false);
        Check.same("another shape still may have more", x.corner(1, 7, 2), true);
        Check.same("near()", x.near(), 1);
    }

    static void terms_boxes1To4_eachOfTenShapesHasFour() {
        ColourParts x = new ColourParts(1);
        for (int s = 0; s < 10; s++) {
            x.shape();
        }
        for (int b = 0; b < 4; b++) {
            for (int s = 0; s < 10; s++) {
                more(x, s, 10 * s, 10 * b, 10 * s + 2, 10 * b + 3);
            }
        }
        for (int s = 0; s < 10; s++) {
            int one = s;
            Check.state("a fifth box", () -> Check.flag(x.corner(one, 0, 0)));
        }
        Check.same("run()", x.run(2, 10), 0);
        areas(x, 240);
        pairs(x);
    }

    static void terms_twoCornersAcross_whicheverTheyAre() {
        long[][] orders = {{2, -3, 8, 1}, {8, 1, 2, -3}, {2, 1, 8, -3}, {8, -3, 2, 1}};
        long[][] within = {{2, -3}, {8, 1}, {2, 1}, {8, -3}, {5, -1}};
        long[][] without = {{1, -3}, {9, 1}, {2, 2}, {8, -4}, {1, 2}, {9, -4}};
        for (long[] c : orders) {
            for (long[] p : within) {
                ColourParts x = told(1, y -> box(y, c[0], c[1], c[2], c[3]));
                point(x, p[0], p[1]);
                Check.same("a point of the box is near", x.near(), 1);
            }
            for (long[] p : without) {
                ColourParts x = told(1, y -> box(y, c[0], c[1], c[2], c[3]));
                point(x, p[0], p[1]);
                Check.same("a point beside the box is not", x.near(), 0);
            }
            ColourParts x = told(1, y -> box(y, c[0], c[1], c[2], c[3]));
            x.run(2, 1);
            areas(x, 24);
        }
    }

    static void terms_cornersInTurn_everySecondMakesABox() {
        ColourParts x = new ColourParts(1);
        x.shape();
        for (int i = 0; i < 8; i++) {
            Check.same("corner " + i, x.corner(0, 5 * i, i), i % 2 == 1);
        }
        Check.same("run()", x.run(2, 1), 0);
        areas(x, 20);
    }

    static void terms_cornersInTurn_eachShapeHasItsOwnTurn() {
        ColourParts x = new ColourParts(1);
        x.shape();
        x.shape();
        Check.same("first of 0", x.corner(0, 0, 0), false);
        Check.same("first of 1", x.corner(1, 50, 50), false);
        Check.same("second of 0", x.corner(0, 4, 4), true);
        Check.same("second of 1", x.corner(1, 51, 51), true);
        Check.same("near()", x.near(), 0);
        x.run(2, 2);
        areas(x, 17);
    }

    static void terms_placesFromMinusMillionToMillion_theLastRightOnes() {
        long[] right = {-1000000, 1000000, -999999, 999999, 0};
        for (long a : right) {
            for (long b : right) {
                ColourParts x = new ColourParts(1);
                x.shape();
                more(x, 0, a, b, b, a);
                Check.same("run()", x.run(2, 1), 0);
                areas(x, (a - b) * (a - b));
            }
        }
    }

    static void terms_placesFromMinusMillionToMillion_theFirstWrongOnes() {
        long[] wrong = {-1000001, 1000001, -2000000, 2000000, MOST, LEAST, WRAP, -WRAP, WRAP + 5, Long.MAX_VALUE,
            Long.MIN_VALUE, Long.MAX_VALUE - 1, Long.MIN_VALUE + 1};
        for (long far : wrong) {
            for (boolean second : new boolean[] {false, true}) {
                Story story = x -> {
                    x.shape();
                    if (second) {
                        x.corner(0, 1, 2);
                    }
                };
                refused(Check.ARGUMENT, "corner(0, " + far + ", 0)", 1, story, x -> Check.flag(x.corner(0, far, 0)));
                refused(Check.ARGUMENT, "corner(0, 0, " + far + ")", 1, story, x -> Check.flag(x.corner(0, 0, far)));
                refused(Check.ARGUMENT, "both " + far, 1, story, x -> Check.flag(x.corner(0, far, far)));
                refused(Check.ARGUMENT, "both " + far, 1, story, x -> Check.flag(x.corner(0, far, -far)));
            }
        }
    }

    static void terms_aBoxMayBeALine_lyingOrStanding() {
        ColourParts x = new ColourParts(2);
        box(x, 0, 7, 10, 7);
        Check.same("a line is not open", x.near(), 0);
        box(x, 12, 0, 12, 7);
        Check.same("two apart", x.near(), 0);
        box(x, 11, 6, 11, -5);
        pairs(x, 0, 2, 1, 2);
        Check.same("run()", x.run(2, 3), 0);
        areas(x);
        counts(x, 2, 1);
        Check.argument("no place across a line", () -> Check.flag(x.stitch(1, 12, true)));
        Check.argument("no place across a line", () -> Check.flag(x.stitch(0, 7, false)));
        Check.same("places along it", x.stitch(0, 5, true), true);
        Check.same("places along it", x.stitch(1, 5, false), true);
    }

    static void terms_aBoxMayBeAPoint() {
        ColourParts x = new ColourParts(1);
        point(x, 3, -3);
        Check.same("a point is not open", x.near(), 0);
        point(x, 3, -3);
        Check.same("at the same place", x.near(), 1);
        point(x, 4, -3);
        point(x, 3, -2);
        Check.same("one apart", x.near(), 1);
        Check.same("run()", x.run(2, 4), 0);
        areas(x);
        counts(x, 3, 1);
        for (long at : new long[] {2, 3, 4, -3, -2, -4}) {
            Check.argument("no place within a point", () -> Check.flag(x.stitch(0, at, true)));
            Check.argument("no place within a point", () -> Check.flag(x.stitch(0, at, false)));
        }
    }

    static void terms_aBoxMayBeALineOrAPoint_amongOtherBoxes() {
        ColourParts x = new ColourParts(1);
        box(x, 0, 0, 2, 2);
        more(x, 0, 10, 10, 10, 10);
        more(x, 0, 20, 0, 20, 10);
        more(x, 0, 0, 30, 10, 30);
        point(x, 10, 10);
        point(x, 20, 3);
        point(x, 3, 30);
        pairs(x, 0, 1, 0, 2, 0, 3);
        x.run(2, 4);
        areas(x, 4);
    }

    static void terms_open_aShapeWithoutABox() {
        ColourParts x = new ColourParts(1);
        x.shape();
        open("the only one", x, 0);
    }

    static void terms_open_aShapeWithHalfABox() {
        ColourParts x = new ColourParts(1);
        x.shape();
        x.corner(0, 4, 4);
        open("the only one", x, 0);
        x.corner(0, 4, 4);
        notOpen("with the second corner", x, 0);
    }

    static void terms_open_itsLatestBoxHasButOneCorner() {
        ColourParts x = new ColourParts(1);
        box(x, 0, 0, 10, 10);
        for (int b = 1; b < 4; b++) {
            notOpen("with " + b + " boxes", x, 0);
            x.corner(0, b, b);
            open("with " + b + " boxes and a half", x, 0);
            x.corner(0, 20 * b, 5);
        }
        notOpen("with four boxes", x, 0);
    }

    static void terms_open_theFirstTheLastOrOneBetween() {
        for (int open = 0; open < 10; open++) {
            ColourParts x = told(1, y -> points(y, 10));
            notOpen("ten points", x, 0);
            x.corner(open, 7, 7);
            for (int s = 0; s < 10; s++) {
                open("shape " + open + " is open", x, s);
            }
            x.corner(open, 7, 7);
            notOpen("ten shapes", x, open);
        }
    }

    static void terms_open_oneClosedAnotherStillOpen() {
        ColourParts x = new ColourParts(1);
        x.shape();
        x.shape();
        more(x, 1, 0, 0, 3, 3);
        open("0 has no box", x, 1);
        x.corner(1, 50, 50);
        more(x, 0, 9, 9, 12, 12);
        open("1 has a half", x, 0);
        x.corner(1, 50, 50);
        notOpen("none", x, 0);
    }
}
