/** The sentences under 'Terms' on what is near. */
public final class TermsNearTest extends Layout {
    public static void main(String[] args) {
        Sentences.check(TermsNearTest.class, "terms");
    }

    /** Whether two boxes are near: looked at from both sides, as shapes and as pieces. */
    private static void near(long distance, long[] a, long[] b, boolean due) {
        for (int turn = 0; turn < 2; turn++) {
            ColourParts x = new ColourParts(distance);
            long[] one = turn == 0 ? a : b;
            long[] other = turn == 0 ? b : a;
            box(x, one[0], one[1], one[2], one[3]);
            box(x, other[0], other[1], other[2], other[3]);
            String name = "distance " + distance + ", " + java.util.Arrays.toString(one)
                + java.util.Arrays.toString(other) + ": ";
            Check.same(name + "near()", x.near(), Check.flag(due));
            Check.same(name + "pair(0, 1)", x.pair(0, 1), due ? 1 : NONE);
            Check.same(name + "run(2, 2)", x.run(2, 2), 0);
            Check.same(name + "colour(1)", x.colour(1), Check.flag(due));
        }
    }

    /** The box 0 0 10 10 and a point so far from it to each side and over each of its corners. */
    private static void apart(long distance, long gapX, long gapY, boolean due) {
        long[] box = {0, 0, 10, 10};
        for (long px : new long[] {-gapX, 10 + gapX}) {
            for (long py : new long[] {-gapY, 10 + gapY}) {
                near(distance, box, new long[] {px, py, px, py}, due);
            }
        }
    }

    static void terms_near_0WhereTheyHaveAPointInCommon() {
        long[] box = {0, 0, 10, 10};
        long[][] others = {{0, 0, 10, 10}, {3, 3, 7, 7}, {-5, -5, 20, 20}, {5, 5, 15, 15}, {-5, 5, 5, 15},
            {-5, 4, 20, 6}, {4, -5, 6, 20}, {10, 0, 20, 10}, {0, 10, 10, 20}, {-9, 0, 0, 10}, {0, -9, 10, 0},
            {10, 10, 20, 20}, {-9, -9, 0, 0}, {10, -9, 20, 0}, {-9, 10, 0, 20}, {5, 5, 5, 5}, {10, 10, 10, 10},
            {10, 5, 10, 5}, {0, 3, 10, 3}, {5, -9, 5, 0}};
        for (long[] other : others) {
            near(1, box, other, true);
        }
    }

    static void terms_near_linesThatCrossHaveAPointInCommon() {
        near(1, new long[] {0, 5, 10, 5}, new long[] {5, 0, 5, 10}, true);
        near(1, new long[] {0, 5, 10, 5}, new long[] {10, 5, 10, 5}, true);
        near(1, new long[] {0, 5, 10, 5}, new long[] {5, 6, 5, 10}, false);
        near(1, new long[] {0, 5, 10, 5}, new long[] {11, 0, 11, 10}, false);
    }

    static void terms_near_theGapInX() {
        long[] box = {0, 0, 10, 10};
        for (long gap = 0; gap <= 7; gap++) {
            near(4, box, new long[] {10 + gap, 3, 15 + gap, 5}, gap < 4);
            near(4, box, new long[] {-gap - 5, 3, -gap, 5}, gap < 4);
            near(4, box, new long[] {10 + gap, -100, 15 + gap, 100}, gap < 4);
        }
    }

    static void terms_near_theGapInY() {
        long[] box = {0, 0, 10, 10};
        for (long gap = 0; gap <= 7; gap++) {
            near(4, box, new long[] {3, 10 + gap, 5, 15 + gap}, gap < 4);
            near(4, box, new long[] {3, -gap - 5, 5, -gap}, gap < 4);
            near(4, box, new long[] {-100, 10 + gap, 100, 15 + gap}, gap < 4);
        }
    }

    static void terms_near_bothGapsSquaredTogether() {
        for (long gapX = 0; gapX <= 6; gapX++) {
            for (long gapY = 0; gapY <= 6; gapY++) {
                apart(5, gapX, gapY, gapX * gapX + gapY * gapY < 25);
            }
        }
    }

    static void terms_near_belowTheSquareAndNotTheSquareItself() {
        apart(5, 3, 4, false);
        apart(5, 4, 3, false);
        apart(5, 3, 3, true);
        apart(5, 5, 0, false);
        apart(5, 0, 5, false);
        apart(5, 4, 2, true);
        apart(13, 5, 12, false);
        apart(13, 5, 11, true);
        apart(65535, 39321, 52428, false);
        apart(65535, 39321, 52427, true);
        apart(65535, 39320, 52428, true);
    }

    static void terms_near_theLeastDistance() {
        apart(1, 0, 0, true);
        apart(1, 1, 0, false);
        apart(1, 0, 1, false);
        apart(1, 1, 1, false);
    }

    static void terms_near_theGreatestDistance() {
        apart(65536, 65535, 0, true);
        apart(65536, 0, 65536, false);
        apart(65536, 65535, 361, true);
        apart(65536, 65535, 362, true);
        apart(65536, 65535, 363, false);
        apart(65536, 46340, 46341, true);
        apart(65536, 46341, 46341, false);
    }

    /** With 32 bits these squares would wrap to 0 or below it. */
    static void terms_near_theFarthestPlaces() {
        for (long gap : new long[] {65536, 92682, 131072, 262144, 1000000, 1048576, 1999990}) {
            near(65536, new long[] {-1000000, 0, -1000000, 0}, new long[] {gap - 1000000, 0, gap - 1000000, 0}, false);
            near(65536, new long[] {0, 1000000, 0, 1000000}, new long[] {0, 1000000 - gap, 0, 1000000 - gap}, false);
        }
        near(65536, new long[] {-1000000, -1000000, -1000000, -1000000}, new long[] {1000000, 1000000, 1000000, 1000000},
            false);
        near(1, new long[] {-1000000, -1000000, 1000000, 1000000}, new long[] {1000000, -1000000, 1000000, -1000000},
            true);
    }

    static void terms_near_someOfTheirBoxes_anyOfFourWithAnyOfFour() {
        for (int i = 0; i < 4; i++) {
            for (int j = 0; j < 4; j++) {
                ColourParts x = new ColourParts(1);
                x.shape();
                x.shape();
                for (int b = 0; b < 4; b++) {
                    more(x, 0, b == i ? 500 : 10 * b, 0, b == i ? 501 : 10 * b + 1, 1);
                    more(x, 1, b == j ? 501 : 10 * b, b == j ? 1 : 50, b == j ? 505 : 10 * b + 1, 55);
                }
                pairs(x, 0, 1);
                Check.same("run(2, 2)", x.run(2, 2), 0);
                colours(x, 0, 1);
            }
        }
    }

    static void terms_near_someOfTheirBoxes_noneOfSixteen() {
        ColourParts x = new ColourParts(9);
        x.shape();
        x.shape();
        for (int b = 0; b < 4; b++) {
            more(x, 0, 30 * b, 0, 30 * b + 21, 10);
            more(x, 1, 30 * b, 19, 30 * b + 21, 29);
        }
        pairs(x);
        Check.same("run(2, 2)", x.run(2, 2), 0);
        colours(x, 0, 0);
    }

    static void terms_near_aShapeIsNotNearItself() {
        ColourParts x = new ColourParts(50);
        x.shape();
        for (int b = 0; b < 4; b++) {
            more(x, 0, b, 0, b + 3, 5);
        }
        pairs(x);
        Check.same("run(2, 1)", x.run(2, 1), 0);
        colours(x, 0);
    }

    /** Whole boxes of a shape count although it was open when others came near. */
    static void terms_near_whateverTheOrderOfTheCorners() {
        ColourParts x = new ColourParts(2);
        x.shape();
        x.shape();
        x.corner(0, 0, 0);
        x.corner(1, 5, 0);
        x.corner(0, 4, 0);
        x.corner(1, 9, 0);
        pairs(x, 0, 1);
        x.corner(0, 90, 0);
        point(x, 91, 0);
        x.corner(0, 90, 5);
        pairs(x, 0, 1, 0, 2);
    }

    /** Half a box is none: only where it ends decides. */
    static void terms_near_aFirstCornerAloneIsNoBox() {
        ColourParts x = new ColourParts(1);
        box(x, 0, 0, 1, 1);
        x.shape();
        x.corner(1, 0, 0);
        x.corner(1, 5, 5);
        pairs(x, 0, 1);
        point(x, 60, 60);
        x.corner(2, 61, 61);
        x.corner(2, 5, 5);
        pairs(x, 0, 1, 1, 2);
    }

    static void terms_nearPieces_theDistanceCountsFromThePiece() {
        for (long at = 10; at <= 20; at++) {
            ColourParts x = new ColourParts(5);
            box(x, 0, 0, 30, 2);
            standing(x, 0, 10);
            point(x, 2, 2);
            point(x, at, 6);
            x.pre(1, 0);
            x.pre(2, 1);
            // The second point is 4 above: near the left piece if less than 3 right of the cut.
            Check.same("run() with a point at " + at, x.run(2, 4), at < 13 ? 1 : 0);
        }
    }

    static void terms_nearPieces_whatIsOverTheCutIsNearBoth() {
        ColourParts x = new ColourParts(1);
        box(x, 0, 0, 30, 2);
        standing(x, 0, 10);
        point(x, 10, 2);
        x.pre(1, 0);
        Check.same("run()", x.run(2, 3), 0);
        used(x, 0, 0);
        colours(x, 1, 0);
        counts(x, 1, 2);
    }

    static void terms_nearPieces_aPieceAloneIsNear() {
        for (int k = 0; k < 4; k++) {
            ColourParts x = new ColourParts(1);
            box(x, 0, 0, 40, 2);
            standing(x, 0, 10, 20, 30);
            for (int other = 0; other < 4; other++) {
                point(x, 10 * other + 5, 1);
                x.pre(other + 1, other == k ? 1 : 0);
            }
            Check.same("run()", x.run(2, 8), 0);
            used(x, 0, k == 0 || k == 1 ? 1 : 0, k == 1 || k == 2 ? 1 : 0, k == 2 || k == 3 ? 1 : 0);
            Check.same("the first piece", x.colour(0), k == 0 ? 0 : 1);
        }
    }

    static void terms_nearPieces_ofOneShapeAreNotNear() {
        ColourParts x = new ColourParts(9);
        box(x, 0, 0, 4, 4);
        standing(x, 0, 1, 2, 3);
        Check.same("run()", x.run(2, 4), 0);
        used(x, 0, 0, 0, 0);
        counts(x, 4);
        ring(x);
    }

    static void terms_nearPieces_ofTwoShapesBothCut() {
        ColourParts x = new ColourParts(1);
        box(x, 0, 0, 20, 1);
        box(x, 10, 1, 30, 2);
        standing(x, 0, 5);
        standing(x, 1, 25);
        point(x, 0, 0);
        point(x, 30, 2);
        x.pre(2, 0);
        x.pre(3, 0);
        // 0 | 0's right piece - 1's left piece | 1's right piece: both ends are 1, so one stitch is used.
        Check.same("run()", x.run(2, 6), 0);
        Check.same("stitches()", x.stitches(), 1);
        used(x, 0, 1);
        used(x, 1, 0);
        colours(x, 1, 1, 0, 0);
    }

    static void terms_nearPieces_ofSomeBoxesOfAnUncutShape() {
        ColourParts x = new ColourParts(1);
        box(x, 0, 0, 30, 0);
        standing(x, 0, 10, 20);
        box(x, 500, 0, 501, 0);
        more(x, 1, 5, 0, 5, 0);
        more(x, 1, 25, 0, 25, 0);
        more(x, 1, 700, 0, 701, 0);
        point(x, 15, 0);
        x.pre(1, 1);
        x.pre(2, 0);
        Check.same("run()", x.run(2, 5), 0);
        used(x, 0, 1, 1);
        Check.same("the first piece", x.colour(0), 0);
    }
}
