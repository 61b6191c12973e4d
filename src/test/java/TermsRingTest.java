/** The sentences under 'Terms' on the odd ring. */
public final class TermsRingTest extends Layout {
    public static void main(String[] args) {
        Sentences.check(TermsRingTest.class, "terms");
    }

    private static void noColouring(ColourParts x, int... due) {
        Check.same("run(2, 12)", x.run(2, 12), 1);
        ring(x, due);
    }

    /** The numbers of a closed chain of so many from first on. */
    private static int[] chain(int first, int many) {
        int[] twos = new int[2 * many];
        for (int k = 0; k < many; k++) {
            twos[2 * k] = first + k;
            twos[2 * k + 1] = first + (k + 1) % many;
        }
        return twos;
    }

    static void terms_ring_whenThereIsNoColouringWithTwo_notWhenThereIs() {
        for (int many = 4; many <= 10; many += 2) {
            ColourParts x = graph(many, chain(0, many));
            Check.same("an even chain", x.run(2, 12), 0);
            ring(x);
        }
    }

    static void terms_ring_oddInNumber_3To9Shapes() {
        for (int many = 3; many <= 9; many += 2) {
            int[] due = new int[many];
            for (int k = 0; k < many; k++) {
                due[k] = k;
            }
            noColouring(graph(many, chain(0, many)), due);
        }
    }

    /** One shape is cut, so ten shapes make a ring of eleven pieces: the longest there can be. */
    static void terms_ring_oddInNumber_11Pieces() {
        ColourParts x = bridge();
        standing(x, 0, 10);
        noColouring(x, 0, 1, 0, 2, 3, 4, 5, 6, 7, 8, 9);
        standing(x, 0, 15);
        // Now the cut at 15 parts what is near the bridge from what is near the chain's end.
        Check.same("run(2, 12)", x.run(2, 12), 0);
        Check.same("stitches()", x.stitches(), 1);
        ring(x);
    }

    static void terms_ring_theShortest() {
        noColouring(graph(8, 0, 1, 1, 2, 2, 3, 3, 4, 4, 0, 5, 6, 6, 7, 7, 5), 5, 6, 7);
        noColouring(graph(10, 0, 1, 1, 2, 2, 3, 3, 4, 4, 0, 5, 6, 6, 7, 7, 8, 8, 9, 9, 5), 0, 1, 2, 3, 4);
        // A chain of seven with a short way across: 2 to 6, so 6 0 1 2 is even and 2 3 4 5 6 is odd.
        noColouring(graph(7, 0, 1, 1, 2, 2, 3, 3, 4, 4, 5, 5, 6, 6, 0, 2, 6), 2, 3, 4, 5, 6);
    }

    static void terms_ring_differentPieces() {
        // 0 1 2 3 1 would be a way round of five that begins with less, but 1 is in it twice.
        noColouring(graph(4, 0, 1, 1, 2, 2, 3, 3, 1), 1, 2, 3);
        noColouring(graph(7, 0, 1, 1, 2, 2, 3, 3, 4, 4, 5, 5, 6, 6, 2), 2, 3, 4, 5, 6);
    }

    static void terms_ring_eachNearTheNextAndTheLastNearTheFirst() {
        noColouring(graph(5, 0, 2, 2, 4, 4, 1, 1, 3, 3, 0), 0, 2, 4, 1, 3);
        noColouring(graph(7, 0, 6, 6, 1, 1, 5, 5, 2, 2, 4, 4, 3, 3, 0), 0, 3, 4, 2, 5, 1, 6);
        noColouring(graph(4, 0, 1, 1, 2, 2, 3, 3, 0, 3, 1), 0, 1, 3);
    }

    static void terms_ring_theLeastFirstPiece() {
        noColouring(graph(7, 1, 4, 4, 5, 5, 1, 2, 3, 3, 6, 6, 2), 1, 4, 5);
        noColouring(graph(7, 1, 2, 2, 3, 3, 1, 0, 5, 5, 6, 6, 0), 0, 5, 6);
        noColouring(graph(10, 9, 8, 8, 7, 7, 9), 7, 8, 9);
    }

    static void terms_ring_thenTheLeastSecond() {
        noColouring(graph(6, 0, 3, 3, 4, 4, 0, 0, 2, 2, 5, 5, 0), 0, 2, 5);
        noColouring(graph(3, 2, 1, 1, 0, 0, 2), 0, 1, 2);
        noColouring(graph(9, 0, 8, 8, 1, 1, 2, 2, 7, 7, 0, 0, 3, 3, 4, 4, 5, 5, 6, 6, 0), 0, 3, 4, 5, 6);
    }

    static void terms_ring_thenTheLeastThirdAndSoOn() {
        noColouring(graph(6, 0, 1, 1, 5, 5, 0, 1, 3, 3, 0), 0, 1, 3);
        noColouring(graph(6, 0, 1, 1, 2, 2, 5, 5, 4, 4, 0, 2, 3, 3, 4), 0, 1, 2, 3, 4);
        noColouring(graph(6, 0, 1, 1, 2, 2, 3, 3, 5, 5, 0, 3, 4, 4, 0), 0, 1, 2, 3, 4);
        noColouring(graph(7, 0, 1, 1, 6, 6, 3, 3, 4, 4, 0, 1, 2, 2, 5, 5, 4), 0, 1, 2, 5, 4);
    }

    /** Shape 0 is of pieces 0 and 1: the ring at piece 0 goes before the one of lesser shapes at piece 1. */
    static void terms_ring_byPiecesNotByShapes() {
        ColourParts x = new ColourParts(1);
        box(x, 0, 0, 20, 0);
        standing(x, 0, 10);
        for (int k = 0; k < 4; k++) {
            long at = k < 2 ? 15 : 5;
            box(x, at, 0, at, 5);
        }
        noColouring(x, 0, 3, 4);
        standing(x, 0, 12);
        noColouring(x, 0, 3, 4);
    }

    static void terms_ring_aShapeWithTwoPiecesInIt() {
        ColourParts x = new ColourParts(1);
        box(x, 0, 0, 20, 0);
        box(x, 9, 0, 11, 0);
        box(x, 0, 0, 0, 9);
        box(x, 20, 0, 20, 9);
        box(x, 0, 9, 20, 9);
        // Uncut: 0 2 4 3 and 0 1, no odd ring.
        Check.same("run(2, 12)", x.run(2, 12), 0);
        standing(x, 0, 10);
        // 0's left piece, 1, 0's right piece, 3, 4, 2: six, even.
        Check.same("run(2, 12)", x.run(2, 12), 0);
        box(x, 0, 9, 0, 9);
        noColouring(x, 2, 4, 5);
    }

    static void terms_ring_piecesOfOneShapeAreNotNear() {
        ColourParts x = new ColourParts(1);
        box(x, 0, 0, 20, 0);
        standing(x, 0, 10);
        point(x, 10, 0);
        Check.same("run(2, 12)", x.run(2, 12), 0);
        ring(x);
        x.pre(1, 0);
        x.pre(0, 0);
        noColouring(x);
    }

    static void terms_ring_thereMayBeNone_becauseOfColoursToldNearEachOther() {
        ColourParts x = row(4);
        x.pre(0, 0);
        x.pre(3, 0);
        noColouring(x);
        x.pre(3, 1);
        Check.same("run(2, 12)", x.run(2, 12), 0);
        ring(x);
    }

    static void terms_ring_thereMayBeNone_becauseAColourToldIsNot() {
        for (int c = 2; c <= 3; c++) {
            ColourParts x = row(1);
            x.pre(0, c);
            noColouring(x);
        }
    }

    static void terms_ring_isThereAlthoughColoursAreTold() {
        ColourParts x = graph(5, 1, 2, 2, 3, 3, 1, 0, 4);
        x.pre(0, 1);
        x.pre(1, 1);
        x.pre(2, 0);
        noColouring(x, 1, 2, 3);
        x.pre(3, 2);
        noColouring(x, 1, 2, 3);
    }

    static void terms_ring_heapOfTen() {
        ColourParts x = told(1, y -> heap(y, 10));
        noColouring(x, 0, 1, 2);
    }
}
