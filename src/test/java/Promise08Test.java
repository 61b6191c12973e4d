/** Promise 8, length: "How many pieces that ring has; 0 without one (or when that run() was not 1 with two colours)." */
public final class Promise08Test extends Layout {
    public static void main(String[] args) {
        Sentences.check(Promise08Test.class, "promise08");
    }

    private static ColourParts heapOf(int many, int colours, long due) {
        ColourParts x = told(1, y -> heap(y, many));
        Check.same("run()", x.run(colours, 12), due);
        return x;
    }

    static void promise08_howManyPieces() {
        Check.same("length()", heapOf(3, 2, 1).length(), 3);
        Check.same("length()", heapOf(10, 2, 1).length(), 3);
        ColourParts x = graph(7, 0, 1, 1, 2, 2, 3, 3, 4, 4, 5, 5, 6, 6, 0);
        x.run(2, 7);
        Check.same("length()", x.length(), 7);
    }

    static void promise08_piecesNotShapes() {
        ColourParts x = new ColourParts(1);
        box(x, 0, 0, 20, 0);
        standing(x, 0, 10);
        box(x, 5, 0, 5, 9);
        box(x, 15, 0, 15, 9);
        box(x, 5, 9, 10, 9);
        box(x, 10, 9, 15, 9);
        box(x, 10, 0, 10, 5);
        // 0's left piece, 1, 3, 4, 2, 0's right piece, 5: seven pieces of six shapes.
        Check.same("run()", x.run(2, 12), 1);
        ring(x, 0, 1, 3, 4, 2, 0, 5);
    }

    static void promise08_0WithoutOne_beforeAnyRun() {
        Check.same("length()", new ColourParts(1).length(), 0);
        Check.same("length()", told(1, y -> heap(y, 5)).length(), 0);
    }

    static void promise08_0WithoutOne_becauseOfToldColours() {
        ColourParts x = row(2);
        x.pre(0, 1);
        x.pre(1, 1);
        Check.same("run()", x.run(2, 2), 1);
        Check.same("length()", x.length(), 0);
    }

    static void promise08_0WithoutOne_thatRunWasNot1() {
        Check.same("length()", heapOf(2, 2, 0).length(), 0);
        Check.same("length()", heapOf(3, 3, 0).length(), 0);
        Check.same("length()", heapOf(4, 4, 0).length(), 0);
        Check.same("length()", heapOf(3, 4, 0).length(), 0);
    }

    static void promise08_0WithoutOne_thatRunWasNotWithTwoColours() {
        Check.same("length()", heapOf(4, 3, 1).length(), 0);
        Check.same("length()", heapOf(5, 4, 1).length(), 0);
    }

    static void promise08_thatRun_oneThatAnswers2IsNotMeant() {
        ColourParts x = heapOf(3, 2, 1);
        Check.same("run(2, 2)", x.run(2, 2), 2);
        Check.same("length()", x.length(), 3);
        Check.same("run(3, 2)", x.run(3, 2), 2);
        Check.same("length()", x.length(), 3);
        Check.same("run(3, 3)", x.run(3, 3), 0);
        Check.same("length()", x.length(), 0);
        Check.same("run(2, 2)", x.run(2, 2), 2);
        Check.same("length()", x.length(), 0);
    }

    static void promise08_thatRun_oneThatThrowsIsNotMeant() {
        ColourParts x = heapOf(3, 2, 1);
        Check.argument("run(9, 9)", () -> x.run(9, 9));
        Check.same("length()", x.length(), 3);
    }

    static void promise08_aShapeMayBeOpen() {
        ColourParts x = heapOf(3, 2, 1);
        x.shape();
        Check.same("length()", x.length(), 3);
        x.clear();
        Check.same("length()", x.length(), 0);
    }
}
