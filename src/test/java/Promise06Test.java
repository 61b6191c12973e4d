/** Promise 6, colour: that of a shape's first piece in the colouring kept; "NONE without one, or when it was not there." */
public final class Promise06Test extends Layout {
    public static void main(String[] args) {
        Sentences.check(Promise06Test.class, "promise06");
    }

    static void promise06_theColourOfAShape_from0To3() {
        ColourParts x = told(1, y -> heap(y, 4));
        x.run(4, 4);
        colours(x, 0, 1, 2, 3);
        for (int s = 0; s < 4; s++) {
            x.pre(s, 3 - s);
        }
        x.run(4, 4);
        colours(x, 3, 2, 1, 0);
    }

    static void promise06_ofTheFirstPiece() {
        for (boolean across : new boolean[] {false, true}) {
            for (int first = 0; first <= 1; first++) {
                ColourParts x = new ColourParts(1);
                box(x, 0, 0, 20, 20);
                x.stitch(0, 15, across);
                x.stitch(0, 5, across);
                x.pre(point(x, across ? 1 : 9, across ? 9 : 1), 1 - first);
                x.pre(point(x, across ? 18 : 9, across ? 9 : 18), first);
                Check.same("run()", x.run(2, 5), 0);
                Check.same("colour(0)", x.colour(0), first);
                Check.same("stitches()", x.stitches(), 1);
            }
        }
    }

    static void promise06_ofEachShapeBehindCutOnes() {
        ColourParts x = new ColourParts(1);
        for (int s = 0; s < 3; s++) {
            box(x, 0, 20 * s, 10, 20 * s + 9);
            x.pre(s, 1 + s);
        }
        point(x, 100, 0);
        x.pre(3, 3);
        standing(x, 0, 2, 4, 6);
        standing(x, 1, 3);
        lying(x, 2, 45, 46);
        Check.same("run()", x.run(4, 12), 0);
        colours(x, 1, 2, 3, 3);
    }

    static void promise06_NONEWithoutOne_beforeTheFirstRun() {
        ColourParts x = told(1, y -> heap(y, 10));
        x.pre(0, 2);
        nothingKept(x, 10);
    }

    static void promise06_NONEWithoutOne_afterARunThatFoundNone() {
        ColourParts x = told(1, y -> heap(y, 3));
        x.run(3, 3);
        x.run(2, 3);
        colours(x, NONE, NONE, NONE);
    }

    static void promise06_NONEWithoutOne_afterClear() {
        ColourParts x = told(1, y -> heap(y, 3));
        x.run(3, 3);
        x.clear();
        heap(x, 3);
        colours(x, NONE, NONE, NONE);
    }

    static void promise06_NONEWhenItWasNotThere() {
        ColourParts x = new ColourParts(1);
        x.run(2, 0);
        for (int s = 0; s < 10; s++) {
            point(x, 5, 5);
            colours(x, NONE);
            Check.same("colour(" + s + ")", x.colour(s), NONE);
        }
        x.clear();
        heap(x, 3);
        x.run(3, 3);
        x.shape();
        colours(x, 0, 1, 2, NONE);
        x.corner(3, 5, 5);
        x.corner(3, 5, 5);
        colours(x, 0, 1, 2, NONE);
        x.run(3, 3);
        colours(x, 0, 1, 2, NONE);
        x.run(4, 4);
        colours(x, 0, 1, 2, 3);
    }

    static void promise06_asItWasKept_whateverIsToldSince() {
        ColourParts x = row(3);
        x.run(2, 3);
        x.pre(0, 3);
        more(x, 1, 90, 90, 99, 99);
        box(x, 0, 0, 9, 9);
        colours(x, 0, 1, 0, NONE);
        x.run(4, 3);
        colours(x, 0, 1, 0, NONE);
    }

    static void promise06_noSuchShape() {
        ColourParts x = row(2);
        x.run(2, 2);
        for (int s : new int[] {-1, 2, 3, 9, 10, LEAST, MOST}) {
            refused(Check.PLACE, "colour(" + s + ")", 1, y -> {
                heap(y, 2);
                y.run(2, 2);
            }, y -> y.colour(s));
            Check.place("colour(" + s + ")", () -> x.colour(s));
        }
        Check.place("colour(10) of ten", () -> told(1, y -> points(y, 10)).colour(10));
    }
}
