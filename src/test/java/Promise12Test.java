/** Promise 12, used: "Whether the k-th stitch of a shape (by places) is used in the colouring kept", and what it refuses. */
public final class Promise12Test extends Layout {
    public static void main(String[] args) {
        Sentences.check(Promise12Test.class, "promise12");
    }

    /** A bar from 0 to 10, cut at 3 and 8, between points told 0 at 1 and 1 at 9; so the stitch at 3 is used. */
    private static void kept(ColourParts x) {
        box(x, 0, 0, 10, 2);
        standing(x, 0, 8, 3);
        x.pre(point(x, 1, 2), 0);
        x.pre(point(x, 9, 2), 1);
        x.run(2, 5);
    }

    static void promise12_theKthByPlaces() {
        used(told(1, Promise12Test::kept), 0, 1, 0);
        ColourParts x = told(1, Promise12Test::kept);
        x.pre(1, 1);
        x.pre(2, 0);
        x.run(2, 5);
        used(x, 0, 0, 1);
    }

    static void promise12_theKthByPlaces_lyingOnes() {
        ColourParts x = new ColourParts(1);
        box(x, 0, -9, 2, 1);
        lying(x, 0, -2, -7, -5);
        x.pre(point(x, 1, -6), 0);
        x.pre(point(x, 1, -4), 1);
        x.run(2, 6);
        used(x, 0, 0, 1, 0);
    }

    static void promise12_ofEachShape() {
        ColourParts x = new ColourParts(1);
        for (int s = 0; s < 3; s++) {
            box(x, 0, 10 * s, 40, 10 * s + 2);
        }
        for (int s = 0; s < 3; s++) {
            standing(x, s, 10 * s + 10);
        }
        int low = x.shape();
        int high = x.shape();
        for (int s = 0; s < 3; s++) {
            more(x, low, 1, 10 * s, 1, 10 * s);
            more(x, high, 39, 10 * s, 39, 10 * s);
        }
        x.pre(low, 0);
        x.pre(high, 1);
        standing(x, 1, 5);
        standing(x, 2, 35);
        Check.same("run()", x.run(2, 12), 0);
        used(x, 0, 1);
        used(x, 1, 1, 0);
        // 1 0 0 comes before 1 1 0.
        used(x, 2, 1, 0);
        used(x, low);
        used(x, high);
        Check.same("stitches()", x.stitches(), 3);
    }

    static void promise12_noSuchShape() {
        for (int s : new int[] {-1, 3, 4, 10, LEAST, MOST}) {
            for (int k : new int[] {-1, 0, 1, MOST}) {
                refused(Check.PLACE, "used(" + s + ", " + k + ")", 1, Promise12Test::kept, x -> Check.flag(x.used(s, k)));
            }
        }
    }

    static void promise12_notSoManyNow() {
        for (int k : new int[] {-1, 2, 3, 4, 31, 32, 33, LEAST, MOST}) {
            refused(Check.PLACE, "used(0, " + k + ")", 1, Promise12Test::kept, x -> Check.flag(x.used(0, k)));
        }
        for (int k : new int[] {-1, 0, 1, LEAST, MOST}) {
            refused(Check.PLACE, "used(1, " + k + ")", 1, Promise12Test::kept, x -> Check.flag(x.used(1, k)));
        }
    }

    static void promise12_noneIsKept_beforeTheFirstRun() {
        ColourParts x = told(1, y -> box(y, 0, 0, 10, 10));
        standing(x, 0, 5);
        used(x, 0);
        x.run(2, 1);
        used(x, 0);
        x.run(2, 2);
        used(x, 0, 0);
    }

    static void promise12_noneIsKept_afterARunThatFoundNone() {
        ColourParts x = told(1, Promise12Test::kept);
        x.pre(0, 0);
        x.run(2, 5);
        used(x, 0);
        Check.place("used(0, 1)", () -> Check.flag(x.used(0, 1)));
    }

    static void promise12_noneIsKept_afterClear() {
        ColourParts x = told(1, Promise12Test::kept);
        x.clear();
        Check.place("used(0, 0)", () -> Check.flag(x.used(0, 0)));
        box(x, 0, 0, 10, 2);
        standing(x, 0, 3, 8);
        used(x, 0);
    }

    static void promise12_notSoManyThen() {
        ColourParts x = told(1, Promise12Test::kept);
        standing(x, 0, 5);
        used(x, 0, 1, 0);
        box(x, 50, 50, 60, 60);
        standing(x, 3, 55);
        used(x, 3);
        x.run(2, 8);
        // 1 | 0 0 0 comes before 1 1 | 0 0.
        used(x, 0, 1, 0, 0);
        used(x, 3, 0);
    }

    static void promise12_notSoManyThen_noneAtAll() {
        ColourParts x = told(1, y -> box(y, 0, 0, 10, 10));
        x.run(2, 1);
        lying(x, 0, 3, 5);
        used(x, 0);
        x.run(2, 2);
        used(x, 0);
        x.run(2, 3);
        used(x, 0, 0, 0);
    }

    static void promise12_aRunThatAnswers2OrThrowsLeavesIt() {
        ColourParts x = told(1, Promise12Test::kept);
        x.run(3, 4);
        used(x, 0, 1, 0);
        Check.argument("run(3, -1)", () -> x.run(3, -1));
        x.shape();
        used(x, 0, 1, 0);
    }
}
