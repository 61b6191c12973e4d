/** Promise 4, near: "How many near pairs of shapes there are. IllegalStateException." */
public final class Promise04Test extends Layout {
    public static void main(String[] args) {
        Sentences.check(Promise04Test.class, "promise04");
    }

    static void promise04_howMany_noneWithoutShapes() {
        Check.same("near()", new ColourParts(65536).near(), 0);
        Check.same("near()", told(65536, y -> heap(y, 1)).near(), 0);
    }

    static void promise04_howMany_upTo45() {
        for (int many = 0; many <= 10; many++) {
            int shapes = many;
            Check.same("near() of " + many, told(1, y -> heap(y, shapes)).near(), many * (many - 1) / 2);
        }
    }

    static void promise04_eachPairOnce_howeverManyBoxesAreNear() {
        ColourParts x = new ColourParts(1);
        x.shape();
        x.shape();
        for (int b = 0; b < 4; b++) {
            more(x, 0, 0, 0, 5, 5);
            more(x, 1, 5, 5, 9, 9);
            Check.same("near()", x.near(), 1);
        }
    }

    static void promise04_ofShapesNotOfPieces() {
        ColourParts x = new ColourParts(1);
        box(x, 0, 0, 10, 10);
        box(x, 0, 10, 10, 20);
        standing(x, 0, 2, 4, 6);
        standing(x, 1, 3, 5, 7);
        Check.same("near()", x.near(), 1);
        Check.same("run(2, 8)", x.run(2, 8), 0);
        Check.same("near()", x.near(), 1);
    }

    static void promise04_asTheShapesAreNow() {
        ColourParts x = told(3, y -> points(y, 3));
        Check.same("near()", x.near(), 0);
        more(x, 2, 2, 0, 2, 0);
        Check.same("near()", x.near(), 1);
        more(x, 2, 99999, 2, 99999, 2);
        Check.same("near()", x.near(), 2);
        point(x, 1, 1);
        Check.same("near()", x.near(), 4);
        x.pre(0, 1);
        x.pre(2, 1);
        Check.same("near()", x.near(), 4);
        x.clear();
        Check.same("near()", x.near(), 0);
        point(x, 0, 0);
        point(x, 3, 0);
        Check.same("near()", x.near(), 0);
    }

    static void promise04_aShapeIsOpen() {
        ColourParts x = new ColourParts(1);
        x.shape();
        Check.state("no box", () -> x.near());
        x.corner(0, 0, 0);
        Check.state("half a box", () -> x.near());
        x.corner(0, 0, 0);
        Check.same("a whole one", x.near(), 0);
        x.corner(0, 0, 0);
        Check.state("one and a half", () -> x.near());
    }

    static void promise04_itChangesNothing() {
        changesNothing(3, "near()", 1, x -> {
            heap(x, 3);
            x.run(2, 3);
        }, x -> x.near(), true);
    }
}
