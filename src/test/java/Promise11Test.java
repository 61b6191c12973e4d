/** Promise 11, stitches: "How many stitches the colouring kept uses; 0 without one." */
public final class Promise11Test extends Layout {
    public static void main(String[] args) {
        Sentences.check(Promise11Test.class, "promise11");
    }

    /** Bars of four pieces one over the other, each between points told 0, 1, 0, 1. */
    private static ColourParts bars(int many) {
        ColourParts x = new ColourParts(1);
        for (int s = 0; s < many; s++) {
            box(x, 0, 100 * s, 40, 100 * s + 2);
            standing(x, s, 10, 20, 30);
        }
        for (int c = 0; c <= 1; c++) {
            int s = x.shape();
            more(x, s, 5 + 10 * c, 2, 5 + 10 * c, 100 * many - 98);
            more(x, s, 25 + 10 * c, 2, 25 + 10 * c, 100 * many - 98);
            x.pre(s, c);
        }
        return x;
    }

    static void promise11_howMany_from0To3OfOneShape() {
        int[][] told = {{0, 0, 0, 0}, {0, 0, 0, 1}, {0, 1, 1, 0}, {0, 1, 0, 1}};
        for (int due = 0; due <= 3; due++) {
            ColourParts x = new ColourParts(1);
            box(x, 0, 0, 40, 2);
            standing(x, 0, 10, 20, 30);
            for (int k = 0; k < 4; k++) {
                x.pre(point(x, 5 + 10 * k, 2), told[due][k]);
            }
            Check.same("run()", x.run(2, 8), 0);
            Check.same("stitches()", x.stitches(), due);
        }
    }

    static void promise11_howMany_overAllShapes() {
        for (int many = 1; many <= 2; many++) {
            ColourParts x = bars(many);
            Check.same("run()", x.run(2, 12), 0);
            Check.same("stitches()", x.stitches(), 3 * many);
            Check.same("run()", x.run(3, 12), 0);
            Check.same("stitches()", x.stitches(), 0);
        }
    }

    static void promise11_0WithoutOne() {
        Check.same("a new object", new ColourParts(1).stitches(), 0);
        ColourParts x = bars(2);
        Check.same("before the first run()", x.stitches(), 0);
        x.run(2, 9);
        Check.same("after 2", x.stitches(), 0);
        x.run(2, 12);
        Check.same("after 0", x.stitches(), 6);
        x.pre(0, 1);
        x.run(2, 12);
        Check.same("after 1", x.stitches(), 0);
        x.pre(0, NONE);
        x.run(2, 12);
        x.clear();
        Check.same("cleared", x.stitches(), 0);
    }

    static void promise11_ofTheColouringKept_whateverComesSince() {
        ColourParts x = bars(1);
        x.run(2, 12);
        x.pre(0, 1);
        Check.same("told", x.stitches(), 3);
        x.run(2, 1);
        Check.same("too few steps", x.stitches(), 3);
        box(x, 0, 0, 9, 9);
        standing(x, 3, 5);
        Check.same("one more stitch", x.stitches(), 3);
        Check.argument("run(7, 7)", () -> x.run(7, 7));
        x.shape();
        Check.same("one is open", x.stitches(), 3);
    }
}
