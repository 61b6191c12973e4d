/** The sentences under 'Terms' on colourings and the best of them. */
public final class TermsColouringTest extends Layout {
    public static void main(String[] args) {
        Sentences.check(TermsColouringTest.class, "terms");
    }

    static void terms_colouring_oneOfSoManyColours() {
        for (int colours = 2; colours <= 4; colours++) {
            for (int heap = 1; heap <= 5; heap++) {
                int many = heap;
                ColourParts x = told(1, y -> heap(y, many));
                Check.same(heap + " all near, " + colours + " colours", x.run(colours, 10), heap <= colours ? 0 : 1);
                for (int s = 0; s < heap; s++) {
                    Check.same("colour(" + s + ")", x.colour(s), heap <= colours ? s : NONE);
                }
            }
        }
    }

    static void terms_colouring_nearPiecesHaveDifferentOnes() {
        ColourParts x = graph(6, 0, 1, 1, 2, 2, 3, 3, 4, 4, 5, 0, 5);
        Check.same("run()", x.run(2, 6), 0);
        colours(x, 0, 1, 0, 1, 0, 1);
        ColourParts wheel = graph(5, 0, 1, 1, 2, 2, 3, 3, 0, 4, 0, 4, 1, 4, 2, 4, 3);
        Check.same("a wheel with two", wheel.run(2, 5), 1);
        Check.same("a wheel with three", wheel.run(3, 5), 0);
        colours(wheel, 0, 1, 0, 1, 2);
    }

    static void terms_colouring_othersMayHaveTheSame() {
        ColourParts x = told(1, y -> points(y, 10));
        Check.same("run()", x.run(4, 10), 0);
        colours(x, 0, 0, 0, 0, 0, 0, 0, 0, 0, 0);
        counts(x, 10);
    }

    static void terms_told_aShapeHasThat() {
        for (int c = 0; c <= 3; c++) {
            ColourParts x = row(3);
            x.pre(1, c);
            Check.same("run()", x.run(4, 3), 0);
            colours(x, c == 0 ? 1 : 0, c, c == 0 ? 1 : 0);
        }
    }

    static void terms_told_allPiecesHaveThat() {
        ColourParts x = new ColourParts(1);
        box(x, 0, 0, 40, 2);
        standing(x, 0, 10, 20, 30);
        x.pre(0, 1);
        Check.same("run()", x.run(2, 4), 0);
        counts(x, 0, 4);
        used(x, 0, 0, 0, 0);
        for (int k = 0; k < 4; k++) {
            int p = point(x, 10 * k + 5, 2);
            x.pre(p, 1);
            Check.same("a near one told the same", x.run(2, 12), 1);
            x.pre(p, 0);
            Check.same("a near one told another", x.run(2, 12), 0);
        }
    }

    static void terms_told_twoNearOnesTheSame() {
        for (int c = 0; c <= 3; c++) {
            ColourParts x = row(3);
            x.pre(0, c);
            x.pre(2, c);
            Check.same("not near each other", x.run(4, 3), 0);
            x.pre(1, c);
            Check.same("near", x.run(4, 3), 1);
            x.pre(1, (c + 1) % 4);
            Check.same("another", x.run(4, 3), 0);
        }
    }

    static void terms_told_oneOfTheColoursThatThereAre() {
        for (int colours = 2; colours <= 4; colours++) {
            for (int c = 0; c <= 3; c++) {
                ColourParts x = row(1);
                x.pre(0, c);
                Check.same("run(" + colours + ") told " + c, x.run(colours, 1), c < colours ? 0 : 1);
                Check.same("colour(0)", x.colour(0), c < colours ? c : NONE);
            }
        }
    }

    static void terms_told_theLastPieceIsToldWhatThereIsNot() {
        ColourParts x = told(1, y -> points(y, 10));
        x.pre(9, 3);
        Check.same("run(3)", x.run(3, 12), 1);
        Check.same("run(4)", x.run(4, 12), 0);
        counts(x, 9, 0, 0, 1);
    }

    static void terms_used_thePiecesOnBothSidesDiffer() {
        ColourParts x = new ColourParts(1);
        box(x, 0, 0, 40, 2);
        standing(x, 0, 10, 20, 30);
        for (int k = 0; k < 4; k++) {
            point(x, 10 * k + 5, 2);
        }
        int[][] told = {{0, 0, 0, 0}, {1, 0, 0, 0}, {0, 1, 0, 0}, {0, 0, 1, 0}, {0, 0, 0, 1}, {0, 0, 1, 1},
            {0, 1, 1, 0}, {0, 1, 0, 1}, {1, 1, 0, 1}};
        for (int[] one : told) {
            for (int k = 0; k < 4; k++) {
                x.pre(k + 1, one[k]);
            }
            Check.same("run()", x.run(2, 8), 0);
            int[] due = {one[0] != one[1] ? 1 : 0, one[1] != one[2] ? 1 : 0, one[2] != one[3] ? 1 : 0};
            used(x, 0, due);
            Check.same("stitches()", x.stitches(), due[0] + due[1] + due[2]);
            Check.same("colour(0)", x.colour(0), 1 - one[0]);
        }
    }

    /** Pieces of two shapes that come one behind the other have no stitch between them. */
    static void terms_used_onlyWithinAShape() {
        ColourParts x = new ColourParts(1);
        box(x, 0, 0, 10, 2);
        box(x, 10, 0, 20, 2);
        standing(x, 0, 5);
        standing(x, 1, 15);
        Check.same("run()", x.run(2, 4), 0);
        colours(x, 0, 1);
        Check.same("stitches()", x.stitches(), 0);
    }

    static void terms_best_theFewestStitches_beforeTheLeastColours() {
        ColourParts x = new ColourParts(1);
        box(x, 0, 0, 10, 1);
        standing(x, 0, 5);
        point(x, 9, 1);
        x.pre(1, 0);
        for (int colours = 2; colours <= 4; colours++) {
            Check.same("run()", x.run(colours, 3), 0);
            colours(x, 1, 0);
            Check.same("stitches()", x.stitches(), 0);
        }
    }

    static void terms_best_theFewestStitches_whereSomeAreNeeded() {
        ColourParts x = comb();
        standing(x, 0, 6, 14, 22);
        Check.same("run()", x.run(2, 8), 0);
        Check.same("with two", x.stitches(), 3);
        Check.same("run()", x.run(3, 8), 0);
        Check.same("with three", x.stitches(), 0);
        Check.same("colour(0)", x.colour(0), 2);
        x.pre(2, 2);
        Check.same("run()", x.run(3, 8), 0);
        Check.same("teeth 0 2 0 1", x.stitches(), 1);
        // 1 1 1 | 2 and 1 1 1 | 0 alike are good for the last tooth: the lesser is taken.
        used(x, 0, 0, 0, 1);
        colours(x, 1);
        counts(x, 2 + 1, 1 + 3, 1);
    }

    /** Shape 0 could do without its stitch, but then shape 1 would use two. */
    static void terms_best_theFewestStitches_overAllShapesTogether() {
        ColourParts x = new ColourParts(1);
        box(x, 0, 0, 20, 0);
        box(x, 0, 50, 30, 50);
        standing(x, 0, 10);
        standing(x, 1, 10, 20);
        int link = point(x, 5, 0);
        more(x, link, 5, 50, 5, 50);
        more(x, link, 25, 50, 25, 50);
        x.pre(point(x, 15, 50), 0);
        x.pre(point(x, 15, 0), 1);
        Check.same("run()", x.run(2, 8), 0);
        Check.same("stitches()", x.stitches(), 1);
        used(x, 0, 1);
        used(x, 1, 0, 0);
        colours(x, 1, 1, 0, 0, 1);
    }

    static void terms_best_theLeastColourForPiece0() {
        ColourParts x = row(2);
        x.run(2, 2);
        colours(x, 0, 1);
        x.pre(1, 0);
        x.run(4, 2);
        colours(x, 1, 0);
        ColourParts y = told(1, z -> heap(z, 4));
        y.pre(1, 0);
        y.pre(2, 1);
        y.pre(3, 2);
        y.run(4, 4);
        colours(y, 3, 0, 1, 2);
    }

    static void terms_best_thenTheLeastForPiece1AndSoOn() {
        ColourParts x = told(1, y -> heap(y, 4));
        x.pre(3, 1);
        x.run(4, 4);
        colours(x, 0, 2, 3, 1);
        x.pre(3, 0);
        x.run(4, 4);
        colours(x, 1, 2, 3, 0);
        x.pre(3, 2);
        x.run(4, 4);
        colours(x, 0, 1, 3, 2);
        x.pre(3, NONE);
        x.pre(0, 3);
        x.run(4, 4);
        colours(x, 3, 0, 1, 2);
    }

    /** The least colour for the earlier piece, although the later ones have greater ones by that. */
    static void terms_best_anEarlierPieceCountsBeforeAllLaterOnes() {
        ColourParts x = graph(5, 0, 1, 1, 2, 1, 3, 1, 4);
        x.run(2, 5);
        colours(x, 0, 1, 0, 0, 0);
        ColourParts y = graph(5, 0, 1, 0, 2, 0, 3, 0, 4);
        y.run(3, 5);
        colours(y, 0, 1, 1, 1, 1);
        ColourParts z = graph(5, 0, 3, 1, 3, 2, 3, 3, 4);
        z.pre(4, 1);
        z.run(2, 5);
        colours(z, 1, 1, 1, 0, 1);
        z.run(3, 5);
        colours(z, 0, 0, 0, 2, 1);
    }

    /** What is least at first leads to no colouring, so the latest choice that helps is another. */
    static void terms_best_aLaterPieceChangesBeforeAnEarlierOne() {
        ColourParts x = graph(5, 0, 4, 1, 4, 2, 4, 3, 4);
        x.pre(4, 0);
        x.run(2, 5);
        colours(x, 1, 1, 1, 1, 0);
        ColourParts y = graph(5, 0, 3, 1, 3, 2, 3, 3, 4);
        y.pre(4, 2);
        y.pre(1, 1);
        y.run(3, 5);
        // Piece 3 has but 0 left, so pieces 0 and 2 can't have it.
        colours(y, 1, 1, 1, 0, 2);
        y.run(4, 5);
        colours(y, 0, 1, 0, 3, 2);
    }

    static void terms_best_ofSeveralWithTheFewestStitchesTheFirst() {
        ColourParts x = new ColourParts(1);
        box(x, 0, 0, 40, 2);
        standing(x, 0, 10, 20, 30);
        point(x, 5, 2);
        point(x, 35, 2);
        x.pre(1, 0);
        x.pre(2, 1);
        x.run(2, 6);
        // 1 0 0 0 comes before 1 1 0 0 and 1 1 1 0.
        used(x, 0, 1, 0, 0);
        x.pre(1, 1);
        x.pre(2, 0);
        x.run(2, 6);
        // 0 0 0 1 comes before 0 0 1 1.
        used(x, 0, 0, 0, 1);
        x.run(3, 6);
        used(x, 0, 0, 0, 0);
        colours(x, 2, 1, 0);
    }

    static void terms_best_noShapesHaveTheEmptyOne() {
        ColourParts x = new ColourParts(1);
        Check.same("run()", x.run(2, 0), 0);
        Check.same("stitches()", x.stitches(), 0);
        counts(x);
        areas(x);
    }

    static void terms_best_the12PiecesWithMostToChoose() {
        ColourParts x = new ColourParts(1);
        for (int s = 0; s < 3; s++) {
            box(x, 0, 20 * s, 40, 20 * s + 10);
            standing(x, s, 10, 20, 30);
        }
        for (int colours = 2; colours <= 4; colours++) {
            Check.same("run()", x.run(colours, 12), 0);
            counts(x, 12);
        }
        x.pre(2, 3);
        Check.same("run(3)", x.run(3, 12), 1);
        Check.same("run(4)", x.run(4, 12), 0);
        counts(x, 8, 0, 0, 4);
    }
}
