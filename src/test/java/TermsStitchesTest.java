/** The sentences under 'Terms' on stitches and pieces. */
public final class TermsStitchesTest extends Layout {
    public static void main(String[] args) {
        Sentences.check(TermsStitchesTest.class, "terms");
    }

    static void terms_stitches_ofAShapeOfOneBox() {
        for (int boxes = 1; boxes <= 4; boxes++) {
            ColourParts x = new ColourParts(1);
            x.shape();
            for (int b = 0; b < boxes; b++) {
                more(x, 0, 20 * b, 0, 20 * b + 10, 10);
            }
            String got = Check.outcome(() -> Check.flag(x.stitch(0, 5, true)));
            Check.sameText("a stitch of " + boxes + " boxes", got, boxes == 1 ? "1" : Check.STATE);
        }
    }

    static void terms_stitches_upTo3() {
        for (boolean across : new boolean[] {false, true}) {
            Story three = x -> {
                box(x, 0, 0, 10, 10);
                for (long at : new long[] {4, 2, 7}) {
                    Check.same("stitch()", x.stitch(0, at, across), true);
                }
                x.run(2, 4);
            };
            for (long at : new long[] {1, 3, 5, 6, 8, 9}) {
                refused(Check.STATE, "a fourth at " + at, 1, three, x -> Check.flag(x.stitch(0, at, across)));
            }
            ColourParts x = told(1, three);
            Check.same("four pieces", x.run(2, 3), 2);
            used(x, 0, 0, 0, 0);
        }
    }

    static void terms_stitches_upTo3OfEachShape() {
        ColourParts x = new ColourParts(1);
        for (int s = 0; s < 3; s++) {
            box(x, 0, 20 * s, 10, 20 * s + 10);
        }
        for (int k = 1; k <= 3; k++) {
            for (int s = 0; s < 3; s++) {
                Check.same("stitch()", x.stitch(s, s == 1 ? 20 + k : k, s != 1), true);
            }
        }
        Check.same("run(2, 12)", x.run(2, 12), 0);
        for (int s = 0; s < 3; s++) {
            used(x, s, 0, 0, 0);
        }
        counts(x, 12);
        areas(x, 300);
    }

    static void terms_stitches_allLyingOrAllStanding() {
        for (boolean across : new boolean[] {false, true}) {
            for (int before = 1; before <= 2; before++) {
                int many = before;
                Story story = x -> {
                    box(x, 0, 0, 10, 10);
                    for (int k = 0; k < many; k++) {
                        x.stitch(0, 3 + k, across);
                    }
                };
                for (long at : new long[] {1, 3, 4, 5, 9}) {
                    refused(Check.ARGUMENT, "the other way at " + at, 1, story, x -> Check.flag(x.stitch(0, at, !across)));
                }
                Check.same("this way", told(1, story).stitch(0, 9, across), true);
            }
        }
    }

    static void terms_stitches_allLyingOrAllStanding_anotherShapeIsFree() {
        ColourParts x = new ColourParts(1);
        box(x, 0, 0, 10, 10);
        box(x, 20, 0, 30, 10);
        standing(x, 0, 5);
        lying(x, 1, 5);
        standing(x, 0, 6);
        lying(x, 1, 6);
        Check.same("run(2, 6)", x.run(2, 6), 0);
        used(x, 0, 0, 0);
        used(x, 1, 0, 0);
    }

    static void terms_stitches_strictlyWithin_theFirstAndTheLastPlace() {
        for (long at : new long[] {-2, 3, 0}) {
            Check.same("standing at " + at, told(1, x -> box(x, -3, 7, 4, 11)).stitch(0, at, true), true);
        }
        for (long at : new long[] {8, 9, 10}) {
            Check.same("lying at " + at, told(1, x -> box(x, -3, 7, 4, 11)).stitch(0, at, false), true);
        }
    }

    static void terms_stitches_strictlyWithin_theBordersAndBeyond() {
        Story story = x -> box(x, 4, 7, -3, 11);
        long[] all = {-3, 4, -4, 5, 7, 8, 11, -1000000, 1000000, Long.MIN_VALUE, Long.MAX_VALUE, WRAP, WRAP + 1, -WRAP,
            Long.MIN_VALUE + 1};
        for (long at : all) {
            refused(Check.ARGUMENT, "standing at " + at, 1, story, x -> Check.flag(x.stitch(0, at, true)));
        }
        for (long at : new long[] {7, 11, 6, 12, 3, 0, -3, Long.MIN_VALUE, Long.MAX_VALUE, WRAP + 9, 9 - WRAP}) {
            refused(Check.ARGUMENT, "lying at " + at, 1, story, x -> Check.flag(x.stitch(0, at, false)));
        }
    }

    static void terms_stitches_strictlyWithin_aBoxOfBreadth1Or2() {
        ColourParts x = new ColourParts(1);
        box(x, 5, 5, 6, 7);
        for (long at = 4; at <= 7; at++) {
            long place = at;
            Check.argument("standing at " + at, () -> Check.flag(x.stitch(0, place, true)));
        }
        Check.argument("lying at 5", () -> Check.flag(x.stitch(0, 5, false)));
        Check.argument("lying at 7", () -> Check.flag(x.stitch(0, 7, false)));
        Check.same("lying at 6", x.stitch(0, 6, false), true);
    }

    static void terms_stitches_strictlyWithin_theGreatestBox() {
        for (boolean across : new boolean[] {false, true}) {
            ColourParts x = new ColourParts(1);
            box(x, -1000000, -1000000, 1000000, 1000000);
            Check.argument("the border", () -> Check.flag(x.stitch(0, -1000000, across)));
            Check.argument("the border", () -> Check.flag(x.stitch(0, 1000000, across)));
            Check.same("the first place", x.stitch(0, -999999, across), true);
            Check.same("the last place", x.stitch(0, 999999, across), true);
            Check.same("the middle", x.stitch(0, 0, across), true);
            x.run(2, 4);
            areas(x, 4000000000000L);
        }
    }

    /** Pieces of 1, 2, 3 and 4 in breadth; a told point at each in turn shows which piece is which. */
    private static void cut(boolean across, long[] places, long from, long[] middles, long[] due) {
        for (int k = 0; k < 4; k++) {
            ColourParts x = new ColourParts(1);
            box(x, across ? from : 0, across ? 0 : from, across ? from + 20 : 1, across ? 1 : from + 20);
            for (long at : places) {
                Check.same("stitch()", x.stitch(0, at, across), true);
            }
            for (int p = 0; p < 4; p++) {
                point(x, across ? middles[p] : 0, across ? 0 : middles[p]);
                x.pre(p + 1, p == k ? 0 : 1);
            }
            Check.same("run()", x.run(2, 8), 0);
            areas(x, 20 - due[k], due[k]);
            counts(x, 3 + 1, 1 + 3);
            used(x, 0, k <= 1 ? 1 : 0, k == 1 || k == 2 ? 1 : 0, k >= 2 ? 1 : 0);
        }
    }

    static void terms_pieces_fromTheLesserXOn() {
        cut(true, new long[] {2, 5, 10}, 0, new long[] {1, 3, 7, 15}, new long[] {2, 3, 5, 10});
        cut(true, new long[] {-5, -2, -10}, -12, new long[] {-11, -7, -4, 0}, new long[] {2, 5, 3, 10});
    }

    static void terms_pieces_fromTheLesserYOn() {
        cut(false, new long[] {2, 5, 10}, 0, new long[] {1, 3, 7, 15}, new long[] {2, 3, 5, 10});
        cut(false, new long[] {-2, -10, -5}, -12, new long[] {-11, -7, -4, 0}, new long[] {2, 5, 3, 10});
    }

    static void terms_pieces_fromTheLesserOn_inWhateverOrderTheStitchesCame() {
        long[][] orders = {{2, 5, 10}, {2, 10, 5}, {5, 2, 10}, {5, 10, 2}, {10, 2, 5}, {10, 5, 2}};
        for (long[] order : orders) {
            cut(true, order, 0, new long[] {1, 3, 7, 15}, new long[] {2, 3, 5, 10});
            cut(false, order, 0, new long[] {1, 3, 7, 15}, new long[] {2, 3, 5, 10});
        }
    }

    static void terms_pieces_fromTheLesserOn_ofALine() {
        ColourParts x = new ColourParts(1);
        box(x, 8, 3, 0, 3);
        standing(x, 0, 4);
        point(x, 1, 3);
        point(x, 7, 3);
        x.pre(1, 1);
        x.pre(2, 0);
        Check.same("run()", x.run(2, 4), 0);
        Check.same("the left piece", x.colour(0), 0);
        used(x, 0, 1);
        areas(x);
    }

    static void terms_pieces_oneOrTwoStitchesMakeTwoOrThree() {
        for (int stitches = 0; stitches <= 3; stitches++) {
            ColourParts x = new ColourParts(1);
            box(x, 0, 0, 10, 10);
            for (int k = 1; k <= stitches; k++) {
                x.stitch(0, 2 * k, true);
            }
            Check.same("run with too few steps", x.run(2, stitches), 2);
            Check.same("run with enough", x.run(2, stitches + 1), 0);
            counts(x, stitches + 1);
            areas(x, 100);
        }
    }

    static void terms_pieces_aShapeWithoutHasOne_allItsBoxes() {
        ColourParts x = new ColourParts(1);
        x.shape();
        for (int b = 0; b < 4; b++) {
            more(x, 0, 10 * b, 0, 10 * b + 1, 1);
        }
        for (int b = 0; b < 4; b++) {
            point(x, 10 * b, 1);
            x.pre(b + 1, b);
        }
        Check.same("no colour is left for all of it", x.run(4, 5), 1);
        x.pre(3, 0);
        Check.same("one is left", x.run(4, 5), 0);
        colours(x, 2, 0, 1, 0, 3);
        counts(x, 2, 1, 1, 1);
        areas(x, 0, 0, 4);
    }

    private static void cutShapes(ColourParts x, int cut, int uncut) {
        for (int s = 0; s < cut; s++) {
            box(x, 0, 20 * s, 10, 20 * s + 5);
            standing(x, s, 2, 4, 6);
        }
        for (int s = 0; s < uncut; s++) {
            box(x, 100, 20 * s, 110, 20 * s + 5);
        }
    }

    static void terms_atMost12Pieces_theTwelfthByAShape() {
        ColourParts x = told(1, y -> cutShapes(y, 2, 3));
        Check.same("with 11 pieces", x.shape(), 5);
        Check.state("with 12", () -> x.shape());
    }

    static void terms_atMost12Pieces_theTwelfthByAStitch() {
        ColourParts x = told(1, y -> cutShapes(y, 2, 3));
        Check.same("with 11 pieces", x.stitch(4, 105, true), true);
        Check.state("with 12", () -> Check.flag(x.stitch(4, 106, true)));
        Check.state("with 12", () -> Check.flag(x.stitch(3, 105, true)));
        Check.state("with 12", () -> Check.flag(x.stitch(2, 1, false)));
        Check.state("with 12", () -> x.shape());
    }

    static void terms_atMost12Pieces_12CanBeRun() {
        for (int colours = 2; colours <= 4; colours++) {
            ColourParts x = told(1, y -> cutShapes(y, 2, 4));
            Check.same("run with 11 steps", x.run(colours, 11), 2);
            Check.same("run with 12 steps", x.run(colours, 12), 0);
            counts(x, 12);
            areas(x, 300);
        }
    }

    static void terms_atMost12Pieces_ofTenShapesTwoStitches() {
        ColourParts x = new ColourParts(1);
        for (int s = 0; s < 10; s++) {
            box(x, 20 * s, 0, 20 * s + 10, 10);
        }
        standing(x, 9, 185);
        standing(x, 0, 5);
        for (int s = 0; s < 10; s++) {
            int one = s;
            Check.state("a thirteenth piece", () -> Check.flag(x.stitch(one, 20 * one + 7, true)));
        }
        Check.same("run(2, 12)", x.run(2, 12), 0);
        counts(x, 12);
    }

    /** An open shape has no stitches, so it too has one piece. */
    static void terms_atMost12Pieces_openShapesHaveOneToo() {
        ColourParts x = told(1, y -> cutShapes(y, 2, 0));
        for (int s = 2; s < 6; s++) {
            Check.same("shape()", x.shape(), s);
        }
        Check.state("with 12 pieces, four of them open", () -> x.shape());
    }

    /** Were the pieces numbered as they came to be, the cut of shape 0 would come behind shape 1. */
    static void terms_pieces_numberedByShapesThenInTheirOrder() {
        ColourParts x = new ColourParts(1);
        box(x, 0, 0, 30, 2);
        box(x, 12, 2, 18, 4);
        point(x, 2, 2);
        x.pre(2, 0);
        point(x, 28, 2);
        x.pre(3, 1);
        standing(x, 0, 20, 10);
        Check.same("run()", x.run(2, 6), 0);
        // 1 ? 0, and shape 1 is near the middle alone: the middle has the lesser 0.
        used(x, 0, 1, 0);
        colours(x, 1, 1, 0, 1);
    }

    static void terms_pieces_ofDifferentShapes_numberedByShapesNotByPlaces() {
        ColourParts x = new ColourParts(1);
        box(x, 20, 0, 30, 1);
        box(x, 10, 0, 20, 1);
        box(x, 0, 0, 10, 1);
        Check.same("run()", x.run(2, 3), 0);
        colours(x, 0, 1, 0);
        point(x, 0, 0);
        x.pre(3, 0);
        Check.same("run()", x.run(3, 4), 0);
        colours(x, 0, 1, 2, 0);
    }
}
