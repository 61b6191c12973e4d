/** Promise 10, stitch: "standing at x (across) or lying at y: whether there was none there", and what it refuses. */
public final class Promise10Test extends Layout {
    public static void main(String[] args) {
        Sentences.check(Promise10Test.class, "promise10");
    }

    private static void square(ColourParts x) {
        box(x, 0, 0, 10, 10);
    }

    static void promise10_standingAtX() {
        ColourParts x = new ColourParts(1);
        box(x, 0, 100, 10, 104);
        Check.same("stitch(0, 3, true)", x.stitch(0, 3, true), true);
        x.pre(point(x, 1, 102), 0);
        x.pre(point(x, 9, 102), 1);
        Check.same("run()", x.run(2, 4), 0);
        colours(x, 1);
        areas(x, 28, 12);
        Check.argument("102 is no x", () -> Check.flag(x.stitch(0, 102, true)));
    }

    static void promise10_lyingAtY() {
        ColourParts x = new ColourParts(1);
        box(x, 0, 100, 10, 104);
        Check.same("stitch(0, 103, false)", x.stitch(0, 103, false), true);
        x.pre(point(x, 5, 101), 0);
        x.pre(point(x, 5, 104), 1);
        Check.same("run()", x.run(2, 4), 0);
        colours(x, 1);
        areas(x, 10, 30);
        Check.argument("5 is no y", () -> Check.flag(x.stitch(0, 5, false)));
    }

    static void promise10_whetherThereWasNoneThere() {
        for (boolean across : new boolean[] {false, true}) {
            ColourParts x = told(1, Promise10Test::square);
            for (long at : new long[] {5, 2, 9}) {
                Check.same("none at " + at, x.stitch(0, at, across), true);
                Check.same("one at " + at, x.stitch(0, at, across), false);
            }
            for (long at : new long[] {2, 5, 9}) {
                Check.same("one at " + at, x.stitch(0, at, across), false);
            }
        }
    }

    static void promise10_whereThereIsOneAlreadyNothingChanges() {
        for (boolean across : new boolean[] {false, true}) {
            for (int many = 1; many <= 3; many++) {
                int stitches = many;
                Story story = x -> {
                    square(x);
                    for (int k = 1; k <= stitches; k++) {
                        x.stitch(0, 3 * k, across);
                    }
                    x.run(2, 4);
                };
                for (int k = 1; k <= many; k++) {
                    int at = 3 * k;
                    changesNothing(0, "stitch(0, " + at + ")", 1, story, x -> Check.flag(x.stitch(0, at, across)), true);
                }
            }
        }
    }

    static void promise10_whereThereIsOneAlready_with12Pieces() {
        Story story = x -> {
            for (int s = 0; s < 9; s++) {
                box(x, 0, 20 * s, 10, 20 * s + 10);
            }
            standing(x, 4, 3, 6, 9);
        };
        for (int at = 3; at <= 9; at += 3) {
            int place = at;
            changesNothing(0, "stitch(4, " + at + ")", 1, story, x -> Check.flag(x.stitch(4, place, true)), true);
        }
    }

    static void promise10_ofAnotherShapeAtTheSamePlaceThereIsNone() {
        ColourParts x = new ColourParts(1);
        square(x);
        square(x);
        Check.same("stitch(0, 5, true)", x.stitch(0, 5, true), true);
        Check.same("stitch(1, 5, true)", x.stitch(1, 5, true), true);
        Check.same("stitch(1, 5, true)", x.stitch(1, 5, true), false);
    }

    static void promise10_theColouringKeptStays() {
        ColourParts x = told(1, Promise10Test::square);
        x.run(2, 1);
        standing(x, 0, 5);
        colours(x, 0);
        counts(x, 1);
        Check.place("it had not so many then", () -> Check.flag(x.used(0, 0)));
        Check.same("run()", x.run(2, 2), 0);
        counts(x, 2);
    }

    static void promise10_noSuchShape() {
        for (int s : new int[] {-1, 1, 2, 10, LEAST, MOST}) {
            refused(Check.PLACE, "stitch(" + s + ", 5, true)", 1, Promise10Test::square,
                x -> Check.flag(x.stitch(s, 5, true)));
            refused(Check.PLACE, "stitch(" + s + ", 0, false)", 1, Promise10Test::square,
                x -> Check.flag(x.stitch(s, 0, false)));
        }
        Check.place("no shapes at all", () -> Check.flag(new ColourParts(1).stitch(0, 0, true)));
    }

    static void promise10_aShapeIsOpen() {
        Story itself = x -> {
            square(x);
            x.corner(0, 5, 5);
        };
        Story another = x -> {
            square(x);
            standing(x, 0, 4);
            x.shape();
        };
        for (Story story : new Story[] {itself, another}) {
            for (long at : new long[] {0, 4, 5, 10}) {
                refused(Check.STATE, "stitch(0, " + at + ", true)", 1, story, x -> Check.flag(x.stitch(0, at, true)));
            }
        }
    }

    static void promise10_moreBoxesThanOne() {
        for (int many = 2; many <= 4; many++) {
            int boxes = many;
            Story story = x -> {
                square(x);
                for (int b = 1; b < boxes; b++) {
                    more(x, 0, 20 * b, 0, 20 * b + 10, 10);
                }
            };
            for (long at : new long[] {5, 0, 25, Long.MIN_VALUE, Long.MAX_VALUE}) {
                refused(Check.STATE, many + " boxes", 1, story, x -> Check.flag(x.stitch(0, at, true)));
                refused(Check.STATE, many + " boxes", 1, story, x -> Check.flag(x.stitch(0, at, false)));
            }
        }
    }

    static void promise10_3StitchesAndNoneThere() {
        for (boolean across : new boolean[] {false, true}) {
            Story story = x -> {
                square(x);
                for (int k = 1; k <= 3; k++) {
                    x.stitch(0, 3 * k, across);
                }
            };
            for (long at : new long[] {1, 2, 4, 8, 0, 10, Long.MIN_VALUE, Long.MAX_VALUE, WRAP + 3}) {
                refused(Check.STATE, "a fourth at " + at, 1, story, x -> Check.flag(x.stitch(0, at, across)));
                refused(Check.STATE, "the other way at " + at, 1, story, x -> Check.flag(x.stitch(0, at, !across)));
            }
        }
    }

    static void promise10_2StitchesAreNot3() {
        for (boolean across : new boolean[] {false, true}) {
            ColourParts x = told(1, Promise10Test::square);
            for (long at : new long[] {1, 9, 5}) {
                Check.same("stitch(0, " + at + ")", x.stitch(0, at, across), true);
            }
        }
    }

    static void promise10_12PiecesAndNoneThere() {
        Story story = x -> {
            for (int s = 0; s < 10; s++) {
                box(x, 0, 20 * s, 10, 20 * s + 10);
            }
            standing(x, 0, 5);
            lying(x, 9, 185);
        };
        for (int s = 0; s < 10; s++) {
            int one = s;
            refused(Check.STATE, "stitch(" + s + ", 4, true)", 1, story, x -> Check.flag(x.stitch(one, 4, true)));
            refused(Check.STATE, "stitch(" + s + ", 0, true)", 1, story, x -> Check.flag(x.stitch(one, 0, true)));
            refused(Check.STATE, "lying", 1, story, x -> Check.flag(x.stitch(one, 20 * one + 4, false)));
        }
    }

    static void promise10_11PiecesAreNot12() {
        ColourParts x = new ColourParts(1);
        for (int s = 0; s < 10; s++) {
            box(x, 0, 20 * s, 10, 20 * s + 10);
        }
        Check.same("the eleventh", x.stitch(3, 5, true), true);
        Check.same("the twelfth", x.stitch(7, 145, false), true);
        Check.state("a thirteenth", () -> Check.flag(x.stitch(3, 6, true)));
    }

    static void promise10_itIsNotStrictlyWithin() {
        Story story = x -> box(x, 9, -7, -5, 3);
        for (long at : new long[] {-5, 9, -6 - 5, 10, -7, Long.MIN_VALUE, Long.MAX_VALUE, WRAP, 3 - WRAP, LEAST, MOST}) {
            refused(Check.ARGUMENT, "standing at " + at, 1, story, x -> Check.flag(x.stitch(0, at, true)));
        }
        for (long at : new long[] {-7, 3, -8, 4, 9, Long.MIN_VALUE, Long.MAX_VALUE, WRAP, 1 - WRAP, LEAST, MOST}) {
            refused(Check.ARGUMENT, "lying at " + at, 1, story, x -> Check.flag(x.stitch(0, at, false)));
        }
        Check.same("the first x", told(1, story).stitch(0, -4, true), true);
        Check.same("the last x", told(1, story).stitch(0, 8, true), true);
        Check.same("the first y", told(1, story).stitch(0, -6, false), true);
        Check.same("the last y", told(1, story).stitch(0, 2, false), true);
    }

    static void promise10_othersOfItAreTheOtherWay() {
        for (boolean across : new boolean[] {false, true}) {
            Story story = x -> {
                square(x);
                x.stitch(0, 5, across);
            };
            for (long at = 1; at <= 9; at++) {
                long place = at;
                refused(Check.ARGUMENT, "the other way at " + at, 1, story, x -> Check.flag(x.stitch(0, place, !across)));
            }
            ColourParts x = told(1, story);
            Check.argument("the other way", () -> Check.flag(x.stitch(0, 5, !across)));
            Check.same("it is still there", x.stitch(0, 5, across), false);
            Check.same("this way", x.stitch(0, 6, across), true);
        }
    }

    static void promise10_aRefusedOneDoesNotSayWhichWay() {
        for (boolean across : new boolean[] {false, true}) {
            ColourParts x = told(1, Promise10Test::square);
            Check.argument("not within", () -> Check.flag(x.stitch(0, 10, across)));
            Check.same("the other way", x.stitch(0, 5, !across), true);
        }
    }
}
