/** Promise 7, ring: "The shape of piece k of the odd ring of the latest run() that was not 2", and places it has not. */
public final class Promise07Test extends Layout {
    private static final int[] FIVE = {0, 2, 2, 4, 4, 1, 1, 3, 3, 0};

    public static void main(String[] args) {
        Sentences.check(Promise07Test.class, "promise07");
    }

    private static ColourParts ringed() {
        ColourParts x = graph(5, FIVE);
        Check.same("run(2, 5)", x.run(2, 5), 1);
        ring(x, 0, 2, 4, 1, 3);
        return x;
    }

    static void promise07_theShapeOfPieceK() {
        ringed();
    }

    /** Pieces 0 to 3 are of shape 0, so the ring's pieces are 3, 4, 5. */
    static void promise07_theShapeNotTheNumberOfThePiece() {
        ColourParts x = new ColourParts(1);
        box(x, 0, 0, 40, 0);
        standing(x, 0, 10, 20, 30);
        point(x, 35, 0);
        point(x, 35, 0);
        Check.same("run(2, 6)", x.run(2, 6), 1);
        ring(x, 0, 1, 2);
    }

    static void promise07_noSuchPlace_below0AndBehindTheLast() {
        ColourParts x = ringed();
        for (int k : new int[] {-1, -2, -5, 5, 6, 11, 12, 13, 32, LEAST, LEAST + 1, MOST - 1, MOST}) {
            Check.place("ring(" + k + ")", () -> x.ring(k));
        }
        Check.same("the first", x.ring(0), 0);
        Check.same("the last", x.ring(4), 3);
    }

    static void promise07_noSuchPlace_withoutARing() {
        ColourParts fresh = new ColourParts(1);
        ColourParts found = row(3);
        found.run(2, 3);
        ColourParts toldSame = row(2);
        toldSame.pre(0, 0);
        toldSame.pre(1, 0);
        toldSame.run(2, 2);
        ColourParts three = told(1, y -> heap(y, 4));
        three.run(3, 4);
        ColourParts notRun = told(1, y -> heap(y, 4));
        for (ColourParts x : new ColourParts[] {fresh, found, toldSame, three, notRun}) {
            for (int k : new int[] {-1, 0, 1, 2, 11, LEAST, MOST}) {
                Check.place("ring(" + k + ")", () -> x.ring(k));
            }
        }
    }

    static void promise07_theLatestRun_anotherRingTakesItsPlace() {
        ColourParts x = ringed();
        for (int s = 0; s < 5; s++) {
            more(x, s, 500, 500, 500, 500);
        }
        ring(x, 0, 2, 4, 1, 3);
        Check.same("run(2, 5)", x.run(2, 5), 1);
        ring(x, 0, 1, 2);
    }

    static void promise07_theLatestRun_aColouringTakesItsPlace() {
        ColourParts x = ringed();
        Check.same("run(3, 5)", x.run(3, 5), 0);
        ring(x);
    }

    static void promise07_theLatestRun_thatFoundNoneWithThree() {
        ColourParts x = told(1, y -> heap(y, 4));
        x.run(2, 4);
        ring(x, 0, 1, 2);
        Check.same("run(3, 4)", x.run(3, 4), 1);
        ring(x);
    }

    static void promise07_thatWasNot2() {
        ColourParts x = ringed();
        Check.same("run(2, 4)", x.run(2, 4), 2);
        Check.same("run(3, 0)", x.run(3, 0), 2);
        ring(x, 0, 2, 4, 1, 3);
        ColourParts y = told(1, z -> heap(z, 3));
        y.run(3, 3);
        y.run(2, 2);
        ring(y);
    }

    static void promise07_aRunThatThrowsIsNoRun() {
        ColourParts x = ringed();
        Check.argument("run(1, 5)", () -> x.run(1, 5));
        Check.argument("run(3, -1)", () -> x.run(3, -1));
        x.shape();
        Check.state("run(3, 9)", () -> x.run(3, 9));
        ring(x, 0, 2, 4, 1, 3);
    }

    static void promise07_asItWasThen_whateverIsToldSince() {
        ColourParts x = ringed();
        more(x, 0, 900, 900, 910, 910);
        x.pre(3, 2);
        point(x, 905, 905);
        ring(x, 0, 2, 4, 1, 3);
    }

    static void promise07_clearLeavesNone() {
        ColourParts x = ringed();
        x.clear();
        ring(x);
        heap(x, 3);
        ring(x);
    }
}
