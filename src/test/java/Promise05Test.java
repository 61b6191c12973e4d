/** Promise 5, run: the best colouring is kept (0), there is none (1), or there are more pieces than steps (2). */
public final class Promise05Test extends Layout {
    public static void main(String[] args) {
        Sentences.check(Promise05Test.class, "promise05");
    }

    /** A bar of two pieces, the right one near a point told 0; so many pieces are 3. */
    private static void kept(ColourParts x) {
        box(x, 0, 0, 10, 2);
        standing(x, 0, 5);
        point(x, 9, 2);
        point(x, 1, 2);
        x.pre(1, 0);
        x.pre(2, 1);
        x.run(2, 4);
    }

    static void promise05_0_itIsKept() {
        ColourParts x = told(1, Promise05Test::kept);
        Check.same("run(2, 4)", x.run(2, 4), 0);
        colours(x, 0, 0, 1);
        used(x, 0, 1);
        Check.same("stitches()", x.stitches(), 1);
        counts(x, 2, 2);
        areas(x, 10, 10);
        Check.same("closed()", x.closed(), true);
        ring(x);
    }

    static void promise05_0_itTakesThePlaceOfTheOneBefore() {
        ColourParts x = told(1, Promise05Test::kept);
        Check.same("run(3, 4)", x.run(3, 4), 0);
        colours(x, 2, 0, 1);
        used(x, 0, 0);
        Check.same("stitches()", x.stitches(), 0);
        counts(x, 1, 1, 2);
        areas(x, 0, 0, 20);
        Check.same("run(2, 4)", x.run(2, 4), 0);
        counts(x, 2, 2);
        areas(x, 10, 10);
    }

    static void promise05_0_withoutShapes() {
        ColourParts x = told(1, Promise05Test::kept);
        x.clear();
        Check.same("run(2, 0)", x.run(2, 0), 0);
        nothingKept(x, 0);
        Check.same("closed()", x.closed(), true);
    }

    static void promise05_1_noneIsKept() {
        ColourParts x = told(1, Promise05Test::kept);
        x.pre(0, 0);
        Check.same("run(2, 4)", x.run(2, 4), 1);
        nothingKept(x, 3);
        Check.same("closed()", x.closed(), true);
        x.pre(0, NONE);
        nothingKept(x, 3);
        Check.same("run(2, 4)", x.run(2, 4), 0);
        Check.same("stitches()", x.stitches(), 1);
    }

    static void promise05_1_alsoWithThreeOrFour() {
        ColourParts x = told(1, y -> heap(y, 5));
        for (int colours = 2; colours <= 4; colours++) {
            Check.same("run(" + colours + ", 5)", x.run(colours, 5), 1);
            nothingKept(x, 5);
        }
    }

    static void promise05_2_morePiecesThanSteps() {
        for (int many = 0; many <= 10; many++) {
            int shapes = many;
            ColourParts x = told(1, y -> points(y, shapes));
            for (int steps = 0; steps <= 12; steps++) {
                Check.same(many + " pieces, " + steps + " steps", x.run(3, steps), many > steps ? 2 : 0);
                Check.same("closed()", x.closed(), many <= steps);
            }
        }
    }

    static void promise05_2_piecesNotShapes() {
        ColourParts x = new ColourParts(1);
        box(x, 0, 0, 10, 10);
        for (int pieces = 1; pieces <= 4; pieces++) {
            Check.same("too few steps", x.run(2, pieces - 1), 2);
            Check.same("just enough", x.run(2, pieces), 0);
            if (pieces < 4) {
                lying(x, 0, 2 * pieces);
            }
        }
        ColourParts y = new ColourParts(1);
        y.shape();
        for (int b = 0; b < 4; b++) {
            more(y, 0, b, 0, b, 0);
        }
        Check.same("four boxes are one piece", y.run(2, 1), 0);
        Check.same("no step", y.run(2, 0), 2);
    }

    static void promise05_2_nothingChangesButClosed_aColouringIsKept() {
        for (long steps = 0; steps < 4; steps++) {
            long few = steps;
            changesNothing(2, "run(2, " + few + ")", 1, Promise05Test::kept, x -> x.run(2, few), false);
            changesNothing(2, "run(4, " + few + ")", 1, Promise05Test::kept, x -> x.run(4, few), false);
        }
        ColourParts x = told(1, Promise05Test::kept);
        Check.same("closed()", x.closed(), true);
        Check.same("run(2, 3)", x.run(2, 3), 2);
        Check.same("closed()", x.closed(), false);
        colours(x, 0, 0, 1);
        used(x, 0, 1);
    }

    static void promise05_2_nothingChangesButClosed_aRingIsThere() {
        Story story = x -> {
            heap(x, 5);
            x.run(2, 5);
        };
        changesNothing(2, "run(2, 4)", 1, story, x -> x.run(2, 4), false);
        changesNothing(2, "run(3, 4)", 1, story, x -> x.run(3, 4), false);
        ColourParts x = told(1, story);
        x.run(3, 0);
        ring(x, 0, 1, 2);
        Check.same("closed()", x.closed(), false);
    }

    /** It is kept as it was then, although the pieces are others by now. */
    static void promise05_2_nothingChangesButClosed_theShapesHaveChanged() {
        Story story = x -> {
            kept(x);
            standing(x, 0, 8);
            x.pre(1, 3);
            box(x, 50, 50, 60, 60);
        };
        changesNothing(2, "run(2, 5)", 1, story, x -> x.run(2, 5), false);
        ColourParts x = told(1, story);
        x.run(2, 5);
        colours(x, 0, 0, 1, NONE);
        areas(x, 10, 10);
        Check.place("not so many then", () -> Check.flag(x.used(0, 1)));
    }

    static void promise05_2_nothingChangesButClosed_noRunBefore() {
        Story story = x -> heap(x, 3);
        changesNothing(2, "run(2, 2)", 1, story, x -> x.run(2, 2), true);
    }

    static void promise05_2_beforeItIsSeenThatThereIsNone() {
        ColourParts x = told(1, y -> heap(y, 3));
        x.pre(0, 1);
        x.pre(1, 1);
        Check.same("run(2, 2)", x.run(2, 2), 2);
        Check.same("run(2, 3)", x.run(2, 3), 1);
        Check.same("run(2, 2)", x.run(2, 2), 2);
    }

    static void promise05_colours2To4() {
        Story story = x -> {
            heap(x, 3);
            x.run(3, 3);
        };
        for (int colours : new int[] {1, 5, 0, -1, -2, 6, LEAST, MOST, 65538}) {
            refused(Check.ARGUMENT, "run(" + colours + ", 9)", 1, story, x -> x.run(colours, 9));
            refused(Check.ARGUMENT, "run(" + colours + ", 0)", 1, story, x -> x.run(colours, 0));
        }
        int[] due = {1, 0, 0};
        for (int colours = 2; colours <= 4; colours++) {
            Check.same("run(" + colours + ", 9)", told(1, story).run(colours, 9), due[colours - 2]);
        }
    }

    static void promise05_stepsFrom0On() {
        Story story = x -> {
            heap(x, 3);
            x.run(3, 3);
        };
        for (long steps : new long[] {-1, -2, LEAST, -WRAP, 5 - WRAP, Long.MIN_VALUE, Long.MIN_VALUE + 5}) {
            refused(Check.ARGUMENT, "run(3, " + steps + ")", 1, story, x -> x.run(3, steps));
        }
        Check.same("no steps", told(1, story).run(3, 0), 2);
        Check.same("no steps, no pieces", new ColourParts(1).run(3, 0), 0);
        Check.argument("less than none, no pieces", () -> new ColourParts(1).run(3, -1));
    }

    static void promise05_stepsUpToTheGreatest() {
        for (long steps : new long[] {3, 4, MOST, 1L + MOST, WRAP, WRAP + 1, Long.MAX_VALUE - 1, Long.MAX_VALUE}) {
            ColourParts x = told(1, y -> heap(y, 3));
            Check.same("run(3, " + steps + ")", x.run(3, steps), 0);
            colours(x, 0, 1, 2);
        }
    }

    static void promise05_bothNumbersAreWrong() {
        Check.argument("run(1, -1)", () -> row(2).run(1, -1));
        Check.argument("run(5, MIN)", () -> row(2).run(5, Long.MIN_VALUE));
    }

    static void promise05_aShapeIsOpen() {
        Story story = x -> {
            kept(x);
            x.shape();
        };
        for (int colours = 2; colours <= 4; colours++) {
            int wished = colours;
            refused(Check.STATE, "run(" + colours + ", 9)", 1, story, x -> x.run(wished, 9));
            refused(Check.STATE, "run(" + colours + ", 0)", 1, story, x -> x.run(wished, 0));
        }
    }

    static void promise05_theSameAgain() {
        changesNothing(0, "run(2, 4)", 1, Promise05Test::kept, x -> x.run(2, 4), true);
        changesNothing(1, "run(2, 4)", 1, x -> {
            heap(x, 4);
            x.run(2, 4);
        }, x -> x.run(2, 4), true);
    }
}
