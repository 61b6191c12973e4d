/** Promise 13, balance: of the pieces with a colour how many there are (0), or the sum of their areas (1). */
public final class Promise13Test extends Layout {
    public static void main(String[] args) {
        Sentences.check(Promise13Test.class, "promise13");
    }

    private static void kept(ColourParts x) {
        heap(x, 2);
        box(x, 5, 5, 9, 10);
        box(x, 4, 4, 5, 5);
        x.run(4, 4);
    }

    static void promise13_0HowMany() {
        counts(told(1, Promise13Test::kept), 1, 1, 1, 1);
        ColourParts x = told(1, y -> points(y, 10));
        for (int s = 0; s < 10; s++) {
            x.pre(s, s * s % 3);
        }
        x.run(3, 10);
        counts(x, 4, 6);
    }

    static void promise13_0HowMany_piecesNotShapes() {
        ColourParts x = new ColourParts(1);
        box(x, 0, 0, 40, 2);
        standing(x, 0, 10, 20, 30);
        x.run(2, 4);
        counts(x, 4);
        x.pre(point(x, 35, 1), 0);
        x.pre(point(x, 5, 1), 1);
        x.run(2, 6);
        // The bar has 0 0 0 1.
        counts(x, 4, 2);
    }

    static void promise13_1TheAreas() {
        areas(told(1, Promise13Test::kept), 0, 0, 20, 1);
    }

    static void promise13_1TheAreas_ofAllBoxesOfAPiece() {
        ColourParts x = new ColourParts(1);
        x.shape();
        more(x, 0, 0, 0, 3, 5);
        more(x, 0, 3, 5, 0, 0);
        more(x, 0, 9, 9, 9, 30);
        more(x, 0, 1, 1, 2, 2);
        x.pre(0, 3);
        x.run(4, 1);
        areas(x, 0, 0, 0, 15 + 15 + 0 + 1);
        counts(x, 0, 0, 0, 1);
    }

    static void promise13_1TheAreas_ofCutPieces() {
        for (boolean across : new boolean[] {false, true}) {
            ColourParts x = new ColourParts(1);
            box(x, -10, -10, 10, 10);
            x.stitch(0, -7, across);
            x.stitch(0, 9, across);
            x.pre(point(x, across ? -10 : 0, across ? 0 : -10), 1);
            x.pre(point(x, across ? 10 : 0, across ? 0 : 10), 1);
            x.pre(point(x, 0, 0), 0);
            x.run(2, 6);
            areas(x, 60 + 20, 320);
        }
    }

    static void promise13_1TheAreas_theGreatest() {
        ColourParts x = new ColourParts(1);
        for (int s = 0; s < 2; s++) {
            x.shape();
            for (int b = 0; b < 4; b++) {
                more(x, s, -1000000, -1000000, 1000000, 1000000);
            }
        }
        x.run(2, 2);
        areas(x, 16000000000000L, 16000000000000L);
        box(x, -1000000, -1000000, 1000000, 999999);
        standing(x, 2, 0);
        x.run(3, 4);
        areas(x, 16000000000000L, 16000000000000L, 3999998000000L);
        ColourParts y = new ColourParts(1);
        for (int s = 0; s < 10; s++) {
            box(y, -1000000 + 200000 * s, -1000000, -1000000 + 200000 * s + 199999, 1000000);
        }
        y.run(2, 10);
        areas(y, 10 * 199999L * 2000000L);
    }

    static void promise13_asTheyWereThen() {
        ColourParts x = row(2);
        x.run(2, 2);
        more(x, 0, 50, 50, 60, 60);
        standing(x, box(x, 70, 70, 80, 80), 75);
        x.pre(1, 2);
        counts(x, 1, 1);
        areas(x, 1, 1);
        x.run(2, 3);
        counts(x, 1, 1);
        areas(x, 1, 1);
        x.shape();
        areas(x, 1, 1);
        x.corner(3, 0, 90);
        x.corner(3, 1, 91);
        x.run(3, 5);
        counts(x, 4, 0, 1);
        areas(x, 101 + 100 + 1, 0, 1);
    }

    static void promise13_withoutAColouring() {
        nothingKept(new ColourParts(1), 0);
        nothingKept(told(1, y -> points(y, 3)), 3);
        ColourParts x = told(1, y -> heap(y, 3));
        x.run(3, 3);
        counts(x, 1, 1, 1);
        x.run(2, 3);
        nothingKept(x, 3);
    }

    static void promise13_coloursThatTheRunHadNot() {
        ColourParts x = told(1, y -> points(y, 3));
        x.run(2, 3);
        for (int c = 1; c <= 3; c++) {
            Check.same("balance(" + c + ", 0)", x.balance(c, 0), 0);
            Check.same("balance(" + c + ", 1)", x.balance(c, 1), 0);
        }
    }

    static void promise13_noSuchPart() {
        Story[] stories = {Promise13Test::kept, x -> heap(x, 2), x -> x.clear()};
        for (Story story : stories) {
            for (int part : new int[] {-1, 2, 3, -2, LEAST, MOST}) {
                for (int colour : new int[] {0, 3, 4, -1, MOST, LEAST}) {
                    refused(Check.PLACE, "balance(" + colour + ", " + part + ")", 1, story, x -> x.balance(colour, part));
                }
            }
        }
    }

    static void promise13_theColourIsNot0To3() {
        Story[] stories = {Promise13Test::kept, x -> heap(x, 2), x -> x.clear()};
        for (Story story : stories) {
            for (int colour : new int[] {-1, 4, -2, 5, LEAST, MOST}) {
                for (int part = 0; part <= 1; part++) {
                    int one = part;
                    refused(Check.ARGUMENT, "balance(" + colour + ", " + part + ")", 1, story, x -> x.balance(colour, one));
                }
            }
        }
    }
}
