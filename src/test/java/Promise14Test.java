/** Promise 14, pair: the lesser or greater shape of near pair k (by the lesser, then the greater); NONE if not so many. */
public final class Promise14Test extends Layout {
    public static void main(String[] args) {
        Sentences.check(Promise14Test.class, "promise14");
    }

    static void promise14_theLesserAndTheGreater() {
        pairs(graph(10, 9, 0), 0, 9);
        pairs(graph(10, 9, 8), 8, 9);
        pairs(graph(10, 1, 0), 0, 1);
    }

    static void promise14_byTheLesserThenTheGreater() {
        pairs(graph(5, 3, 4, 2, 1, 4, 0, 0, 2, 1, 4, 1, 3), 0, 2, 0, 4, 1, 2, 1, 3, 1, 4, 3, 4);
    }

    static void promise14_all45() {
        int[] due = new int[90];
        int i = 0;
        for (int a = 0; a < 10; a++) {
            for (int b = a + 1; b < 10; b++) {
                due[i++] = a;
                due[i++] = b;
            }
        }
        pairs(told(1, y -> heap(y, 10)), due);
    }

    static void promise14_NONEIfThereAreNotSoMany() {
        ColourParts[] all = {new ColourParts(1), row(1), row(3), told(1, y -> heap(y, 10))};
        int[] counts = {0, 0, 2, 45};
        for (int i = 0; i < all.length; i++) {
            for (int k : new int[] {counts[i], counts[i] + 1, 100, MOST - 1, MOST}) {
                for (int side = 0; side <= 1; side++) {
                    Check.same("pair(" + k + ", " + side + ")", all[i].pair(k, side), NONE);
                }
            }
            if (counts[i] > 0) {
                Check.same("the last one", all[i].pair(counts[i] - 1, 0) >= 0, true);
                Check.same("the last one", all[i].pair(counts[i] - 1, 1) > 0, true);
            }
        }
    }

    static void promise14_asTheShapesAreNow() {
        ColourParts x = row(3);
        x.run(2, 3);
        pairs(x, 0, 1, 1, 2);
        more(x, 2, 0, 0, 0, 0);
        pairs(x, 0, 1, 0, 2, 1, 2);
        standing(x, box(x, 3, 0, 9, 1), 5);
        pairs(x, 0, 1, 0, 2, 1, 2, 2, 3);
        x.clear();
        pairs(x);
    }

    static void promise14_kBelow0() {
        Story[] stories = {x -> heap(x, 3), x -> x.clear(), x -> x.shape()};
        for (Story story : stories) {
            for (int k : new int[] {-1, -2, LEAST, LEAST + 1}) {
                for (int side : new int[] {0, 1, 2, -1}) {
                    refused(Check.PLACE, "pair(" + k + ", " + side + ")", 1, story, x -> x.pair(k, side));
                }
            }
        }
    }

    static void promise14_noSuchSide() {
        Story[] stories = {x -> heap(x, 3), x -> x.clear(), x -> x.shape()};
        for (Story story : stories) {
            for (int side : new int[] {-1, 2, 3, LEAST, MOST}) {
                for (int k : new int[] {0, 2, 3, MOST}) {
                    refused(Check.PLACE, "pair(" + k + ", " + side + ")", 1, story, x -> x.pair(k, side));
                }
            }
        }
    }

    static void promise14_aShapeIsOpen() {
        Story empty = x -> {
            heap(x, 3);
            x.shape();
        };
        Story half = x -> {
            heap(x, 3);
            x.corner(0, 7, 7);
        };
        for (Story story : new Story[] {empty, half}) {
            for (int k : new int[] {0, 2, 3, MOST}) {
                for (int side = 0; side <= 1; side++) {
                    int one = side;
                    refused(Check.STATE, "pair(" + k + ", " + side + ")", 1, story, x -> x.pair(k, one));
                }
            }
        }
    }

    static void promise14_itChangesNothing() {
        Story story = x -> {
            heap(x, 3);
            x.run(2, 3);
        };
        changesNothing(2, "pair(1, 1)", 1, story, x -> x.pair(1, 1), true);
        changesNothing(NONE, "pair(3, 1)", 1, story, x -> x.pair(3, 1), true);
    }
}
