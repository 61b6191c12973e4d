/** Promise 9, pre: "A shape's colour is told, or (NONE) not any more: whether that is another thing than before." */
public final class Promise09Test extends Layout {
    public static void main(String[] args) {
        Sentences.check(Promise09Test.class, "promise09");
    }

    static void promise09_isTold_from0To3() {
        for (int c = 0; c <= 3; c++) {
            ColourParts x = row(3);
            Check.same("pre(2, " + c + ")", x.pre(2, c), true);
            x.run(4, 3);
            Check.same("colour(2)", x.colour(2), c);
        }
    }

    static void promise09_notAnyMore() {
        ColourParts x = row(2);
        x.pre(0, 1);
        x.run(2, 2);
        colours(x, 1, 0);
        Check.same("pre(0, NONE)", x.pre(0, NONE), true);
        x.run(2, 2);
        colours(x, 0, 1);
        Check.same("pre(0, NONE)", x.pre(0, NONE), false);
    }

    static void promise09_whetherThatIsAnotherThing_eachAfterEach() {
        for (int before = NONE; before <= 3; before++) {
            for (int after = NONE; after <= 3; after++) {
                ColourParts x = row(1);
                x.pre(0, before);
                Check.same("after " + before + " pre(0, " + after + ")", x.pre(0, after), before != after);
                Check.same("once more", x.pre(0, after), false);
            }
        }
    }

    static void promise09_eachShapeHasItsOwn() {
        ColourParts x = told(1, y -> points(y, 10));
        for (int s = 0; s < 10; s++) {
            Check.same("pre(" + s + ")", x.pre(s, s % 4), true);
        }
        for (int s = 0; s < 10; s++) {
            Check.same("pre(" + s + ")", x.pre(s, s % 4), false);
        }
        x.run(4, 10);
        colours(x, 0, 1, 2, 3, 0, 1, 2, 3, 0, 1);
    }

    static void promise09_itCountsFromTheNextRunOn() {
        ColourParts x = row(2);
        x.run(2, 2);
        x.pre(0, 1);
        colours(x, 0, 1);
        counts(x, 1, 1);
        Check.same("run()", x.run(2, 2), 0);
        colours(x, 1, 0);
    }

    static void promise09_itStaysWithMoreBoxesAndStitches() {
        ColourParts x = row(1);
        x.pre(0, 1);
        more(x, 0, 50, 50, 60, 60);
        Check.same("pre(0, 1)", x.pre(0, 1), false);
        ColourParts y = new ColourParts(1);
        box(y, 0, 0, 10, 10);
        y.pre(0, 1);
        standing(y, 0, 5);
        y.run(2, 2);
        counts(y, 0, 2);
    }

    static void promise09_theSameAgainChangesNothing() {
        Story story = x -> {
            points(x, 3);
            x.pre(1, 2);
            x.run(3, 3);
        };
        changesNothing(0, "pre(1, 2)", 1, story, x -> Check.flag(x.pre(1, 2)), true);
        changesNothing(0, "pre(0, NONE)", 1, story, x -> Check.flag(x.pre(0, NONE)), true);
    }

    static void promise09_itIsNotNONETo3() {
        Story story = x -> {
            points(x, 3);
            x.pre(1, 2);
            x.run(3, 3);
        };
        for (int colour : new int[] {-2, 4, 5, -3, 32, LEAST, LEAST + 1, MOST, MOST - 1}) {
            for (int s = 0; s < 3; s++) {
                int one = s;
                refused(Check.ARGUMENT, "pre(" + s + ", " + colour + ")", 1, story, x -> Check.flag(x.pre(one, colour)));
            }
        }
    }

    static void promise09_noSuchShape() {
        Story story = x -> {
            points(x, 3);
            x.pre(1, 2);
        };
        for (int s : new int[] {-1, 3, 4, 10, LEAST, MOST}) {
            for (int colour : new int[] {NONE, 0, 3, 4, -2}) {
                refused(Check.PLACE, "pre(" + s + ", " + colour + ")", 1, story, x -> Check.flag(x.pre(s, colour)));
            }
        }
    }

    static void promise09_aShapeIsOpen() {
        Story story = x -> {
            points(x, 3);
            x.pre(1, 2);
            x.shape();
            x.corner(3, 1, 1);
        };
        for (int s = 0; s < 4; s++) {
            for (int colour : new int[] {NONE, 0, 2, 4, -2}) {
                int one = s;
                refused(Check.STATE, "pre(" + s + ", " + colour + ")", 1, story, x -> Check.flag(x.pre(one, colour)));
            }
        }
    }
}
