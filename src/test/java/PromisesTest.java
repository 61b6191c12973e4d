/** A test for each promise of the document: ordinary inputs, its edges, wrong inputs. */
public final class PromisesTest extends Layout {
    public static void main(String[] args) {
        promise1();
        promise1Distance();
        promise2();
        promise3();
        promise3Refused();
        promise4();
        promise5();
        promise5Best();
        promise5Wrong();
        promise6();
        promise7();
        promise8();
        promise8LongestRing();
        promise9();
        promise10();
        promise10Refused();
        promise11();
        promise12();
        promise13();
        promise14();
        promise15();
        promise16();
        openShapes();
        Check.end();
    }

    private static void promise1() {
        ColourParts x = new ColourParts(5);
        Check.same("near() of a new object", x.near(), 0);
        Check.same("pair() of a new object", x.pair(0, 0), NONE);
        Check.same("closed() of a new object", x.closed(), false);
        Check.same("stitches() of a new object", x.stitches(), 0);
        Check.same("balance() of a new object", x.balance(0, 0), 0);
        ring(x);
        Check.place("colour(0) of a new object", () -> x.colour(0));
        Check.same("shape() of a new object", x.shape(), 0);
        Check.same("NONE", NONE, -1);
    }

    private static void promise1Distance() {
        long[][] all = {
            {0, 0, 1}, {0, 1, 0}, {-7, 0, 1}, {Long.MIN_VALUE, 0, 1}, {Long.MIN_VALUE, 1, 0}, {1, 0, 1}, {1, 1, 0},
            {2, 1, 1}, {2, 2, 0}, {65536, 65535, 1}, {65536, 65536, 0}, {65537, 65536, 0}, {65537, 65535, 1},
            {Long.MAX_VALUE, 65535, 1}, {Long.MAX_VALUE, 65536, 0}};
        for (long[] one : all) {
            ColourParts x = new ColourParts(one[0]);
            box(x, 0, 0, 1, 1);
            box(x, 1 + one[1], 0, 1 + one[1], 5);
            Check.same("distance " + one[0] + " gap " + one[1], x.near(), one[2]);
        }
    }

    private static void promise2() {
        ColourParts x = new ColourParts(1);
        for (int i = 0; i < 10; i++) {
            Check.same("shape()", x.shape(), i);
        }
        Check.state("shape() with 10", () -> x.shape());
        Check.place("shape 10 is not there", () -> Check.flag(x.corner(10, 0, 0)));

        ColourParts y = new ColourParts(1);
        for (int s = 0; s < 3; s++) {
            box(y, 20 * s, 0, 20 * s + 10, 1);
            for (int k = 1; k <= 3; k++) {
                Check.same("stitch", y.stitch(s, 20 * s + k, true), s < 3);
            }
        }
        Check.state("shape() with 12 pieces", () -> y.shape());
        Check.same("12 pieces can be run", y.run(2, 12), 0);
        Check.place("shape 3 is not there", () -> y.colour(3));

        ColourParts z = new ColourParts(1);
        box(z, 0, 0, 10, 1);
        for (int k = 1; k <= 3; k++) {
            z.stitch(0, k, true);
        }
        for (int s = 1; s <= 8; s++) {
            Check.same("an open shape has one piece", z.shape(), s);
        }
        Check.state("shape() with 9 shapes of 12 pieces", () -> z.shape());
    }

    private static void promise3() {
        ColourParts x = new ColourParts(1);
        x.shape();
        more(x, 0, 5, -7, -3, 9);
        Check.same("run", x.run(2, 1), 0);
        Check.same("area of corners in any order", x.balance(0, 1), 128);
        more(x, 0, 1000000, 1000000, -1000000, -1000000);
        x.run(2, 1);
        Check.same("area of the greatest box", x.balance(0, 1), 4000000000128L);
        more(x, 0, 2, 2, 2, 2);
        more(x, 0, 3, 3, 3, 8);
        Check.state("corner() of a fifth box", () -> Check.flag(x.corner(0, 0, 0)));
        Check.state("state before argument", () -> Check.flag(x.corner(0, 1000001, 0)));
        x.run(2, 1);
        Check.same("four boxes, a point and a line among them", x.balance(0, 1), 4000000000128L);
    }

    private static void promise3Refused() {
        ColourParts x = new ColourParts(1);
        Check.place("corner(0) without shapes", () -> Check.flag(x.corner(0, 0, 0)));
        x.shape();
        Check.place("corner(-1)", () -> Check.flag(x.corner(-1, 0, 0)));
        Check.place("place before argument", () -> Check.flag(x.corner(1, 1000001, 0)));
        long[][] far = {{1000001, 0}, {-1000001, 0}, {0, 1000001}, {0, -1000001},
            {Long.MAX_VALUE, 0}, {0, Long.MIN_VALUE}, {4294967296L, 0}};
        for (long[] at : far) {
            Check.argument("a corner too far", () -> Check.flag(x.corner(0, at[0], at[1])));
        }
        x.corner(0, 0, 0);
        Check.argument("a second corner too far", () -> Check.flag(x.corner(0, 0, 1000001)));
        Check.same("the refused corner was none", x.corner(0, 4, 4), true);
        x.stitch(0, 2, true);
        Check.state("corner() of a shape with stitches", () -> Check.flag(x.corner(0, 0, 0)));
        Check.state("stitches before too far", () -> Check.flag(x.corner(0, -1000001, 0)));
        Check.same("still not open", x.near(), 0);
    }

    private static void promise4() {
        ColourParts x = new ColourParts(5);
        box(x, 0, 0, 1, 1);
        box(x, 4, 5, 6, 6);
        Check.same("3 and 4 apart with 5", x.near(), 0);
        box(x, 4, 4, 4, 4);
        Check.same("3 and 3 apart, and 1 apart", x.near(), 2);
        more(x, 0, 4, 5, 4, 5);
        Check.same("a later box brings near", x.near(), 3);
        more(x, 0, 5, 5, 5, 5);
        Check.same("near twice is one pair", x.near(), 3);
        box(x, -1000000, -1000000, -1000000, -1000000);
        box(x, 1000000, 1000000, 1000000, 1000000);
        Check.same("the farthest are not near", x.near(), 3);
        box(x, -900, -900, 900, 900);
        Check.same("within is near", x.near(), 6);

        ColourParts cross = new ColourParts(1);
        box(cross, 0, 5, 10, 5);
        box(cross, 5, 0, 5, 10);
        box(cross, 10, 6, 12, 6);
        Check.same("crossing lines are near, one apart is not", cross.near(), 1);
        cross.stitch(0, 5, true);
        Check.same("stitches change nothing of shapes", cross.near(), 1);
    }

    private static void promise5() {
        ColourParts empty = new ColourParts(1);
        Check.same("run of nothing", empty.run(2, 0), 0);

        ColourParts x = row(3);
        Check.same("more pieces than steps", x.run(2, 2), 2);
        Check.same("none kept", x.colour(0), NONE);
        Check.same("as many steps as pieces", x.run(2, 3), 0);
        colours(x, 0, 1, 0);
        Check.same("run with most steps", x.run(4, Long.MAX_VALUE), 0);
        colours(x, 0, 1, 0);
        x.pre(2, 1);
        Check.same("too few steps change nothing", x.run(3, 2), 2);
        colours(x, 0, 1, 0);
        Check.same("run", x.run(3, 3), 0);
        colours(x, 0, 2, 1);
        Check.same("with two it is 1 at both ends", x.run(2, 3), 0);
        colours(x, 1, 0, 1);
        x.pre(0, 0);
        Check.same("none", x.run(2, 3), 1);
        colours(x, NONE, NONE, NONE);
    }

    private static void promise5Best() {
        ColourParts x = new ColourParts(3);
        for (int s = 0; s < 4; s++) {
            box(x, s, 0, s, 0);
        }
        Check.same("the first and the last are not near", x.run(3, 4), 0);
        colours(x, 0, 1, 2, 0);
        ColourParts y = new ColourParts(9);
        for (int s = 0; s < 4; s++) {
            box(y, s, 0, s, 0);
        }
        Check.same("four all near, three colours", y.run(3, 4), 1);
        Check.same("four all near, four colours", y.run(4, 4), 0);
        colours(y, 0, 1, 2, 3);
        y.pre(3, 0);
        y.run(4, 4);
        colours(y, 1, 2, 3, 0);
        box(y, 0, 1, 0, 1);
        Check.same("five all near, four colours", y.run(4, 5), 1);

        // The fewest stitches come before the least colours: 0 for piece 0 would use one.
        ColourParts z = new ColourParts(1);
        box(z, 0, 0, 10, 1);
        int s = box(z, 8, 1, 10, 2);
        z.pre(s, 0);
        z.stitch(0, 5, true);
        Check.same("run", z.run(2, 9), 0);
        Check.same("no stitch used", z.stitches(), 0);
        Check.same("so piece 0 has 1", z.colour(0), 1);
    }

    private static void promise5Wrong() {
        ColourParts x = row(2);
        x.run(2, 2);
        for (int colours : new int[] {1, 0, -1, 5, Integer.MAX_VALUE, Integer.MIN_VALUE}) {
            Check.argument("run(" + colours + ")", () -> x.run(colours, 9));
        }
        Check.argument("run with less than no steps", () -> x.run(2, -1));
        Check.argument("run with least steps", () -> x.run(2, Long.MIN_VALUE));
        Check.same("a run() that throws changes nothing", x.closed(), true);
        colours(x, 0, 1);
        x.shape();
        Check.state("state before argument", () -> x.run(7, -1));
        Check.same("a run() that throws changes nothing", x.closed(), true);
        Check.same("nor what is kept", x.colour(1), 1);
    }

    private static void promise6() {
        ColourParts x = row(2);
        Check.same("colour() before any run()", x.colour(1), NONE);
        x.run(2, 2);
        colours(x, 0, 1);
        x.shape();
        Check.same("a shape that was not there", x.colour(2), NONE);
        Check.same("colour() with an open shape", x.colour(1), 1);
        Check.place("colour(3)", () -> x.colour(3));
        Check.place("colour(-1)", () -> x.colour(-1));
        x.corner(2, 0, 0);
        x.corner(2, 2, 0);
        x.run(2, 3);
        colours(x, NONE, NONE, NONE);
        x.run(3, 3);
        colours(x, 0, 1, 2);

        ColourParts y = comb();
        y.stitch(0, 14, true);
        y.stitch(0, 6, true);
        y.pre(3, NONE);
        y.pre(4, NONE);
        y.run(2, 7);
        Check.same("the first piece's colour", y.colour(0), 1);
    }

    private static void promise7() {
        ColourParts x = new ColourParts(1);
        box(x, 50, 50, 51, 51);
        box(x, 0, 0, 10, 0);
        box(x, 10, 10, 10, 20);
        box(x, 10, 0, 20, 0);
        box(x, 10, 20, 0, 0);
        box(x, 20, 0, 10, 10);
        Check.same("near", x.near(), 8);
        Check.same("none", x.run(2, 9), 1);
        ring(x, 1, 3, 4);

        ColourParts y = new ColourParts(1);
        int[] order = {3, 0, 4, 2, 1};
        for (int s = 0; s < 5; s++) {
            y.shape();
        }
        long[][] way = {{0, 0}, {9, 0}, {9, 9}, {4, 9}, {0, 9}};
        for (int k = 0; k < 5; k++) {
            more(y, order[k], way[k][0], way[k][1], way[(k + 1) % 5][0], way[(k + 1) % 5][1]);
        }
        Check.same("near", y.near(), 5);
        Check.same("none", y.run(2, 5), 1);
        ring(y, 0, 3, 1, 2, 4);
        Check.same("run with too few steps", y.run(2, 4), 2);
        ring(y, 0, 3, 1, 2, 4);
        Check.argument("a wrong run", () -> y.run(1, 5));
        ring(y, 0, 3, 1, 2, 4);
        y.shape();
        Check.same("the ring stays with an open shape", y.ring(4), 4);
        Check.place("ring(MAX)", () -> y.ring(Integer.MAX_VALUE));
        Check.place("ring(MIN)", () -> y.ring(Integer.MIN_VALUE));
        y.corner(5, 100, 100);
        y.corner(5, 100, 100);
        Check.same("run with three", y.run(3, 9), 0);
        ring(y);
    }

    private static void promise8() {
        ColourParts x = new ColourParts(9);
        for (int s = 0; s < 5; s++) {
            box(x, s, 0, s, 0);
        }
        Check.same("length() before any run()", x.length(), 0);
        Check.same("none with two", x.run(2, 5), 1);
        ring(x, 0, 1, 2);
        Check.same("none with three", x.run(3, 5), 1);
        ring(x);
        x.run(2, 5);
        Check.same("none with four", x.run(4, 5), 1);
        ring(x);

        ColourParts y = row(3);
        y.pre(0, 0);
        y.pre(1, 0);
        Check.same("none because of told ones", y.run(2, 3), 1);
        ring(y);
        y.pre(1, NONE);
        y.pre(2, 2);
        Check.same("none because of a colour too great", y.run(2, 3), 1);
        ring(y);
        box(y, 0, 0, 2, 0);
        Check.same("a ring, whatever is told", y.run(2, 4), 1);
        ring(y, 0, 1, 3);
        y.pre(2, NONE);
        Check.same("run with four", y.run(4, 4), 0);
        ring(y);
        y.run(2, 4);
        ring(y, 0, 1, 3);
    }

    private static void promise8LongestRing() {
        ColourParts x = bridge();
        Check.same("none", x.run(2, 20), 1);
        ring(x, 0, 2, 3, 4, 5, 6, 7, 8, 9);
        x.stitch(0, 10, true);
        Check.same("none", x.run(2, 20), 1);
        ring(x, 0, 1, 0, 2, 3, 4, 5, 6, 7, 8, 9);
        x.pre(1, 0);
        Check.same("run with three", x.run(3, 20), 0);
        Check.same("no stitch is of use", x.stitches(), 0);
    }

    private static void promise9() {
        ColourParts x = row(3);
        Check.same("NONE as before", x.pre(0, NONE), false);
        Check.same("told", x.pre(0, 3), true);
        Check.same("told again", x.pre(0, 3), false);
        Check.same("told another", x.pre(0, 1), true);
        Check.same("run", x.run(2, 3), 0);
        colours(x, 1, 0, 1);
        x.pre(0, NONE);
        colours(x, 1, 0, 1);
        x.run(2, 3);
        colours(x, 0, 1, 0);
        x.pre(1, 3);
        Check.same("told 3 of three", x.run(3, 3), 1);
        Check.same("told 3 of four", x.run(4, 3), 0);
        colours(x, 0, 3, 0);
        Check.place("pre(3)", () -> Check.flag(x.pre(3, 9)));
        Check.place("pre(-1)", () -> Check.flag(x.pre(-1, 0)));
        for (int colour : new int[] {4, -2, Integer.MAX_VALUE, Integer.MIN_VALUE}) {
            Check.argument("pre(0, " + colour + ")", () -> Check.flag(x.pre(0, colour)));
        }
        Check.same("nothing was changed", x.pre(0, NONE), false);
        x.shape();
        Check.state("state before argument", () -> Check.flag(x.pre(0, 9)));
        Check.place("place before state", () -> Check.flag(x.pre(4, 0)));

        ColourParts y = comb();
        y.stitch(0, 6, true);
        y.stitch(0, 14, true);
        y.stitch(0, 22, true);
        y.pre(0, 1);
        Check.same("all pieces of a shape have what is told", y.run(2, 12), 1);
        y.pre(0, 2);
        Check.same("run", y.run(3, 12), 0);
        Check.same("all four", y.balance(2, 0), 4);
    }

    private static void promise10() {
        ColourParts x = new ColourParts(1);
        box(x, 10, 4, 0, 0);
        Check.same("a stitch", x.stitch(0, 9, true), true);
        Check.same("once more", x.stitch(0, 9, true), false);
        Check.argument("the other way", () -> Check.flag(x.stitch(0, 2, false)));
        Check.argument("the other way and not within", () -> Check.flag(x.stitch(0, 9, false)));
        Check.same("a second one", x.stitch(0, 1, true), true);
        for (long at : new long[] {0, 10, -1, 11, Long.MAX_VALUE, Long.MIN_VALUE, 4294967298L}) {
            Check.argument("not strictly within", () -> Check.flag(x.stitch(0, at, true)));
        }
        Check.same("a third one", x.stitch(0, 5, true), true);
        Check.state("a fourth one", () -> Check.flag(x.stitch(0, 6, true)));
        Check.state("a fourth one not within", () -> Check.flag(x.stitch(0, 66, true)));
        Check.state("a fourth one the other way", () -> Check.flag(x.stitch(0, 1, false)));
        for (long at : new long[] {1, 5, 9}) {
            Check.same("one of three once more", x.stitch(0, at, true), false);
        }

        ColourParts y = new ColourParts(1);
        box(y, 0, 0, 3, 9);
        Check.same("lying", y.stitch(0, 8, false), true);
        Check.same("lying once more", y.stitch(0, 8, false), false);
        Check.argument("standing among lying ones", () -> Check.flag(y.stitch(0, 2, true)));
        for (long at : new long[] {0, 9, -1, 10}) {
            Check.argument("lying, not within", () -> Check.flag(y.stitch(0, at, false)));
        }
        box(y, 0, 9, 1, 9);
        y.pre(1, 0);
        y.run(2, 9);
        colours(y, 1, 0);
        box(y, 0, 0, 1, 0);
        y.pre(2, 1);
        y.run(2, 9);
        colours(y, 0, 0, 1);
        Check.same("the upper piece is of 3 by 1", y.balance(1, 1), 3);
        Check.same("the lower piece is of 3 by 8", y.balance(0, 1), 24);
    }

    private static void promise10Refused() {
        ColourParts x = new ColourParts(1);
        Check.place("no shape", () -> Check.flag(x.stitch(0, 0, true)));
        box(x, 0, 0, 10, 10);
        box(x, 20, 0, 20, 10);
        box(x, 30, 0, 32, 10);
        more(x, 2, 40, 0, 50, 0);
        Check.place("place before all", () -> Check.flag(x.stitch(3, 99, true)));
        Check.place("place before all", () -> Check.flag(x.stitch(-1, 99, true)));
        Check.state("two boxes", () -> Check.flag(x.stitch(2, 31, true)));
        Check.state("two boxes before not within", () -> Check.flag(x.stitch(2, 99, true)));
        Check.argument("no place within a line", () -> Check.flag(x.stitch(1, 20, true)));
        Check.same("along a line", x.stitch(1, 5, false), true);
        for (int i = 0; i < 7; i++) {
            box(x, 100 + 10 * i, 0, 105 + 10 * i, 5);
        }
        Check.same("the twelfth piece", x.stitch(3, 102, true), true);
        Check.state("a thirteenth piece", () -> Check.flag(x.stitch(3, 103, true)));
        Check.state("a thirteenth piece, not within", () -> Check.flag(x.stitch(4, 0, true)));
        Check.same("one of the twelve once more", x.stitch(3, 102, true), false);
        Check.state("the same place the other way", () -> Check.flag(x.stitch(3, 102, false)));
        Check.same("run of twelve", x.run(2, 12), 0);
        Check.same("run of twelve with eleven steps", x.run(2, 11), 2);
    }

    private static void promise11() {
        ColourParts x = comb();
        Check.same("none", x.run(2, 9), 1);
        Check.same("stitches() without a colouring", x.stitches(), 0);
        x.stitch(0, 6, true);
        x.stitch(0, 14, true);
        Check.same("none yet", x.run(2, 9), 1);
        x.stitch(0, 22, true);
        Check.same("stitches() before the run()", x.stitches(), 0);
        Check.same("now one", x.run(2, 9), 0);
        Check.same("all three used", x.stitches(), 3);
        Check.same("run with three", x.run(3, 9), 0);
        Check.same("the third colour spares them", x.stitches(), 0);
        Check.same("colour(0)", x.colour(0), 2);
        x.pre(3, 2);
        Check.same("run with three", x.run(3, 9), 0);
        Check.same("two of three", x.stitches(), 1);
    }

    private static void promise12() {
        ColourParts x = comb();
        x.stitch(0, 22, true);
        Check.place("used() with none kept", () -> Check.flag(x.used(0, 0)));
        x.stitch(0, 6, true);
        x.pre(3, NONE);
        x.pre(4, NONE);
        Check.same("run", x.run(2, 9), 0);
        Check.same("the one at 6 is used", x.used(0, 0), true);
        Check.same("the one at 22 is not", x.used(0, 1), false);
        Check.place("used(0, 2)", () -> Check.flag(x.used(0, 2)));
        Check.place("used(0, -1)", () -> Check.flag(x.used(0, -1)));
        Check.place("used(0, MAX)", () -> Check.flag(x.used(0, Integer.MAX_VALUE)));
        Check.place("used(0, 32)", () -> Check.flag(x.used(0, 32)));
        Check.place("used(1, 0)", () -> Check.flag(x.used(1, 0)));
        Check.place("used(5, 0)", () -> Check.flag(x.used(5, 0)));
        Check.place("used(-1, 0)", () -> Check.flag(x.used(-1, 0)));
        x.stitch(0, 3, true);
        Check.place("not so many then", () -> Check.flag(x.used(0, 2)));
        Check.same("as it was then", x.used(0, 0), true);
        x.stitch(1, 1, true);
        Check.place("none then", () -> Check.flag(x.used(1, 0)));
        box(x, 0, 50, 9, 59);
        x.stitch(5, 55, false);
        Check.place("the shape was not there", () -> Check.flag(x.used(5, 0)));
        Check.same("run", x.run(2, 12), 0);
        Check.same("now the one at 3 is the first", x.used(0, 0), false);
        Check.same("and that at 6 the second", x.used(0, 1), true);
        Check.same("now it was there", x.used(5, 0), false);
        x.pre(0, 0);
        x.run(2, 12);
        Check.place("none is kept any more", () -> Check.flag(x.used(0, 0)));
    }

    private static void promise13() {
        ColourParts x = comb();
        x.stitch(0, 6, true);
        x.stitch(0, 14, true);
        x.stitch(0, 22, true);
        Check.same("balance() with none kept", x.balance(0, 1), 0);
        x.run(2, 8);
        Check.same("pieces of 0", x.balance(0, 0), 4);
        Check.same("pieces of 1", x.balance(1, 0), 4);
        Check.same("areas of 0", x.balance(0, 1), 4 + 4 + 16 + 16);
        Check.same("areas of 1", x.balance(1, 1), 4 + 4 + 12 + 16);
        Check.same("pieces of 2", x.balance(2, 0), 0);
        Check.same("areas of 3", x.balance(3, 1), 0);
        more(x, 1, 0, 30, 10, 40);
        x.pre(2, NONE);
        Check.same("as they were then", x.balance(0, 1), 40);
        x.run(2, 8);
        // Now the bar has 1, 1, 1, 0, and the second tooth has 0.
        Check.same("with the new box", x.balance(0, 1), 16 + 104 + 4 + 4);
        Check.place("no part 2", () -> x.balance(0, 2));
        Check.place("no part -1", () -> x.balance(0, -1));
        Check.place("place before argument", () -> x.balance(4, 2));
        Check.argument("no colour 4", () -> x.balance(4, 0));
        Check.argument("no colour NONE", () -> x.balance(NONE, 1));
        x.shape();
        Check.same("with an open shape", x.balance(0, 1), 128);

        ColourParts y = new ColourParts(1);
        int s = y.shape();
        more(y, s, 0, 0, 4, 4);
        more(y, s, 2, 2, 6, 6);
        y.run(2, 1);
        Check.same("boxes over each other count twice", y.balance(0, 1), 32);
        Check.argument("no colour 4 without a colouring", () -> new ColourParts(1).balance(4, 0));
    }

    private static void promise14() {
        ColourParts x = new ColourParts(2);
        box(x, 0, 0, 1, 1);
        box(x, 9, 9, 9, 9);
        box(x, 2, 0, 3, 1);
        box(x, 0, 2, 3, 3);
        int[][] due = {{0, 2}, {0, 3}, {2, 3}};
        for (int k = 0; k < 3; k++) {
            for (int side = 0; side < 2; side++) {
                Check.same("pair(" + k + ", " + side + ")", x.pair(k, side), due[k][side]);
            }
        }
        Check.same("pair(3, 0)", x.pair(3, 0), NONE);
        Check.same("pair(MAX, 1)", x.pair(Integer.MAX_VALUE, 1), NONE);
        Check.place("pair(-1, 0)", () -> x.pair(-1, 0));
        Check.place("side 2", () -> x.pair(0, 2));
        Check.place("side -1", () -> x.pair(9, -1));
        x.shape();
        Check.state("an open shape", () -> x.pair(0, 0));
        Check.place("place before state", () -> x.pair(0, 2));
        x.corner(4, 9, 9);
        x.corner(4, 0, 0);
        Check.same("the last of all", x.pair(6, 0), 3);
        Check.same("the last of all", x.pair(6, 1), 4);
        Check.same("after the last", x.pair(7, 1), NONE);
    }

    private static void promise15() {
        ColourParts x = row(3);
        Check.same("before the first run()", x.closed(), false);
        x.run(2, 0);
        Check.same("after 2", x.closed(), false);
        x.run(2, 3);
        Check.same("after 0", x.closed(), true);
        Check.argument("run that throws", () -> x.run(2, -1));
        Check.same("after a run() that threw", x.closed(), true);
        x.run(2, 2);
        Check.same("after 2", x.closed(), false);
        Check.argument("run that throws", () -> x.run(9, 9));
        Check.same("after a run() that threw", x.closed(), false);
        x.pre(0, 2);
        x.run(2, 3);
        Check.same("after 1", x.closed(), true);
        x.shape();
        Check.state("run that throws", () -> x.run(2, 9));
        Check.same("with an open shape", x.closed(), true);
    }

    private static void promise16() {
        ColourParts x = new ColourParts(4);
        for (int s = 0; s < 3; s++) {
            box(x, 2 * s, 0, 2 * s + 1, 3);
            x.pre(s, s);
            x.stitch(s, 1, false);
        }
        x.run(3, 9);
        x.clear();
        Check.same("nothing kept", x.balance(0, 0), 0);
        Check.same("not closed", x.closed(), false);
        Check.same("no stitches", x.stitches(), 0);
        Check.same("no near ones", x.near(), 0);
        Check.place("no shapes", () -> x.colour(0));
        for (int s = 0; s < 3; s++) {
            box(x, 2 * s, 0, 2 * s + 1, 3);
            Check.same("nothing is told", x.pre(s, NONE), false);
            Check.same("the colour is kept no more", x.colour(s), NONE);
        }
        Check.same("the distance stays", x.near(), 3);
        Check.same("no stitch is left", x.run(2, 3), 1);
        ring(x, 0, 1, 2);
        x.clear();
        ring(x);
        Check.same("not closed", x.closed(), false);
        x.shape();
        Check.same("no box is left", Check.outcome(() -> x.near()).startsWith("throws"), true);
        x.corner(0, 1, 1);
        x.clear();
        for (int s = 0; s < 10; s++) {
            Check.same("ten shapes again", x.shape(), s);
            Check.same("no half box is left", x.corner(s, 0, 0), false);
        }
    }

    private static void openShapes() {
        ColourParts x = row(2);
        x.run(2, 2);
        x.shape();
        for (int corners = 0; corners < 4; corners++) {
            if (corners != 2) {
                Check.state("near()", () -> x.near());
                Check.state("run()", () -> x.run(2, 9));
                Check.state("pre()", () -> Check.flag(x.pre(0, 0)));
                Check.state("pre() of the open one", () -> Check.flag(x.pre(2, 0)));
                Check.state("stitch()", () -> Check.flag(x.stitch(0, 9, true)));
                Check.state("stitch() of the open one", () -> Check.flag(x.stitch(2, 0, true)));
                Check.state("pair()", () -> x.pair(0, 0));
            } else {
                Check.same("near()", x.near(), 3);
            }
            x.corner(2, corners, 0);
        }
        Check.same("nothing was told", x.pre(0, NONE), false);
        Check.same("shape() with an open one", x.shape(), 3);
        Check.same("shape() with an open one", x.shape(), 4);
        Check.same("corner() with another open", x.corner(4, 0, 0), false);
    }
}
