/** The sentences under 'What it is' that name a boundary. */
public final class WhatItIsTest extends Layout {
    private static final int MOST_CALLS = 512;

    public static void main(String[] args) {
        Sentences.check(WhatItIsTest.class, "whatItIs");
    }

    /** Three shapes near each other, shape 2 cut into two, and with that 511 calls; 1 is the last run()'s answer. */
    private static ColourParts after511(int colours) {
        ColourParts x = new ColourParts(1);
        box(x, 0, 0, 10, 2);
        box(x, 10, 0, 20, 2);
        box(x, 9, 2, 11, 4);
        lying(x, 2, 3);
        for (int calls = 10; calls < MOST_CALLS - 1; calls++) {
            x.run(colours, 4);
        }
        return x;
    }

    static void whatItIs_usedForAtMost512Calls_the512thTells() {
        Check.same("shape()", after511(2).shape(), 3);
        Check.same("corner()", after511(2).corner(0, 5, 5), false);
        Check.same("pre()", after511(2).pre(0, 1), true);
        Check.same("stitch()", after511(2).stitch(0, 5, true), true);
        Check.same("run(3, 4)", after511(2).run(3, 4), 0);
        Check.same("run(2, 4)", after511(3).run(2, 4), 1);
        Check.same("run(2, 3)", after511(3).run(2, 3), 2);
        after511(3).clear();
    }

    static void whatItIs_usedForAtMost512Calls_the512thAsks() {
        Check.same("near()", after511(2).near(), 3);
        Check.same("pair(2, 1)", after511(2).pair(2, 1), 2);
        Check.same("length()", after511(2).length(), 3);
        Check.same("ring(2)", after511(2).ring(2), 2);
        Check.same("colour(1)", after511(3).colour(1), 1);
        Check.same("stitches()", after511(3).stitches(), 0);
        Check.same("used(2, 0)", after511(3).used(2, 0), false);
        Check.same("balance(2, 1)", after511(3).balance(2, 1), 4);
        Check.same("closed()", after511(3).closed(), true);
    }

    static void whatItIs_usedForAtMost512Calls_the512thIsRefused() {
        Check.place("colour(3)", () -> after511(3).colour(3));
        Check.argument("run(5, 4)", () -> after511(3).run(5, 4));
        Check.state("corner(2, 9, 9)", () -> Check.flag(after511(3).corner(2, 9, 9)));
    }

    /** Nine clears come in between, each with a layout behind it: nothing is used up by what was before. */
    static void whatItIs_usedForAtMost512Calls_clearedAgainAndAgain() {
        ColourParts x = new ColourParts(1);
        int calls = 0;
        for (int turn = 0; calls + 54 <= MOST_CALLS; turn++) {
            for (int s = 0; s < 10; s++) {
                Check.same("shape()", x.shape(), s);
                Check.same("corner()", x.corner(s, 4 * s, turn), false);
                Check.same("corner()", x.corner(s, 4 * s + 4, turn + 2), true);
            }
            for (int s = 0; s < 2; s++) {
                Check.same("stitch()", x.stitch(s, 4 * s + 2, true), true);
            }
            Check.state("stitch()", () -> Check.flag(x.stitch(2, 10, true)));
            for (int s = 0; s < 10; s++) {
                Check.same("pre()", x.pre(s, (s + turn) % 2), true);
            }
            Check.same("near()", x.near(), 9);
            Check.same("run(2, 11)", x.run(2, 11), 2);
            Check.same("run(2, 12)", x.run(2, 12), 0);
            for (int s = 0; s < 6; s++) {
                Check.same("colour()", x.colour(s), (s + turn) % 2);
            }
            Check.same("stitches()", x.stitches(), 0);
            x.clear();
            calls += 54;
        }
        Check.same("calls", calls, 9 * 54);
    }
}
