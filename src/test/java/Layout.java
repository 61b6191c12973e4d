/** What tests tell an object, and how they look at many of its answers at once. */
abstract class Layout {
    static final int NONE = ColourParts.NONE;
    static final int LEAST = Integer.MIN_VALUE;
    static final int MOST = Integer.MAX_VALUE;
    /** As an int this one would be 0. */
    static final long WRAP = 4294967296L;

    interface Story {
        void tell(ColourParts x);
    }

    interface Use {
        long of(ColourParts x);
    }

    static ColourParts told(long distance, Story story) {
        ColourParts x = new ColourParts(distance);
        story.tell(x);
        return x;
    }

    static int box(ColourParts x, long ax, long ay, long bx, long by) {
        int s = x.shape();
        more(x, s, ax, ay, bx, by);
        return s;
    }

    static void more(ColourParts x, int s, long ax, long ay, long bx, long by) {
        Check.same("first corner", x.corner(s, ax, ay), false);
        Check.same("second corner", x.corner(s, bx, by), true);
    }

    static int point(ColourParts x, long px, long py) {
        return box(x, px, py, px, py);
    }

    /** So many points far from each other. */
    static void points(ColourParts x, int many) {
        for (int i = 0; i < many; i++) {
            point(x, 100000 * i, 0);
        }
    }

    /** So many unit boxes, each near the next alone; with distance 1. */
    static ColourParts row(int many) {
        ColourParts x = new ColourParts(1);
        for (int i = 0; i < many; i++) {
            box(x, i, 0, i + 1, 1);
        }
        return x;
    }

    /** So many shapes at one point. */
    static void heap(ColourParts x, int many) {
        for (int i = 0; i < many; i++) {
            point(x, 5, 5);
        }
    }

    /**
     * So many shapes, near by twos as told: for each such two both have a point at a place of its
     * own; so with distance 1 no others are near. A shape can be near four others at the most.
     */
    static ColourParts graph(int many, int... twos) {
        ColourParts x = new ColourParts(1);
        for (int s = 0; s < many; s++) {
            x.shape();
            boolean isAlone = true;
            for (int i = 0; i < twos.length; i++) {
                if (twos[i] == s) {
                    long at = 10 * (i / 2);
                    more(x, s, at, at, at, at);
                    isAlone = false;
                }
            }
            if (isAlone) {
                more(x, s, -10 - s * 10, 0, -10 - s * 10, 0);
            }
        }
        Check.same("near()", x.near(), twos.length / 2);
        return x;
    }

    /** A bar of 30 by 2 and four teeth on it, told 0, 1, 0, 1. */
    static ColourParts comb() {
        ColourParts x = new ColourParts(1);
        box(x, 0, 0, 30, 2);
        for (int k = 0; k < 4; k++) {
            int s = box(x, 8 * k, 2, 8 * k + 4, 3);
            x.pre(s, k % 2);
        }
        return x;
    }

    /** A bar, a bridge over its middle, and a chain of eight from its end to its beginning. */
    static ColourParts bridge() {
        ColourParts x = new ColourParts(1);
        box(x, 0, 0, 20, 0);
        box(x, 9, 0, 11, 0);
        long[][] way = {{20, 0}, {20, 5}, {20, 10}, {15, 10}, {10, 10}, {5, 10}, {0, 10}, {0, 5}, {0, 0}};
        for (int k = 0; k < 8; k++) {
            box(x, way[k][0], way[k][1], way[k + 1][0], way[k + 1][1]);
        }
        return x;
    }

    static void standing(ColourParts x, int s, long... places) {
        for (long at : places) {
            Check.same("stitch(" + s + ", " + at + ", true)", x.stitch(s, at, true), true);
        }
    }

    static void lying(ColourParts x, int s, long... places) {
        for (long at : places) {
            Check.same("stitch(" + s + ", " + at + ", false)", x.stitch(s, at, false), true);
        }
    }

    static void colours(ColourParts x, int... due) {
        for (int s = 0; s < due.length; s++) {
            Check.same("colour(" + s + ")", x.colour(s), due[s]);
        }
    }

    static void ring(ColourParts x, int... due) {
        Check.same("length()", x.length(), due.length);
        for (int k = 0; k < due.length; k++) {
            int at = k;
            Check.sameText("ring(" + k + ")", Check.outcome(() -> x.ring(at)), Integer.toString(due[k]));
        }
        Check.place("ring behind the last", () -> x.ring(due.length));
        Check.place("ring(-1)", () -> x.ring(-1));
    }

    /** Used or not, for each stitch of a shape; and there are no more. */
    static void used(ColourParts x, int s, int... due) {
        for (int k = 0; k < due.length; k++) {
            int at = k;
            Check.sameText("used(" + s + ", " + k + ")", Check.outcome(() -> Check.flag(x.used(s, at))),
                Integer.toString(due[k]));
        }
        Check.place("used behind the last", () -> Check.flag(x.used(s, due.length)));
    }

    /** How many pieces have each colour. */
    static void counts(ColourParts x, long... due) {
        for (int c = 0; c < 4; c++) {
            Check.same("balance(" + c + ", 0)", x.balance(c, 0), c < due.length ? due[c] : 0);
        }
    }

    static void areas(ColourParts x, long... due) {
        for (int c = 0; c < 4; c++) {
            Check.same("balance(" + c + ", 1)", x.balance(c, 1), c < due.length ? due[c] : 0);
        }
    }

    /** All near pairs, one after the other, and that there are no more. */
    static void pairs(ColourParts x, int... due) {
        Check.same("near()", x.near(), due.length / 2);
        for (int i = 0; i < due.length; i++) {
            Check.same("pair(" + i / 2 + ", " + i % 2 + ")", x.pair(i / 2, i % 2), due[i]);
        }
        Check.same("pair behind the last", x.pair(due.length / 2, 0), NONE);
        Check.same("pair behind the last", x.pair(due.length / 2, 1), NONE);
    }

    static void nothingKept(ColourParts x, int shapes) {
        for (int s = 0; s < shapes; s++) {
            int one = s;
            Check.same("colour(" + s + ")", x.colour(s), NONE);
            Check.place("used(" + s + ", 0)", () -> Check.flag(x.used(one, 0)));
        }
        Check.same("stitches()", x.stitches(), 0);
        counts(x);
        areas(x);
    }

    /** The call throws what is due, and the object then answers as one that never met it. */
    static void refused(String due, String name, long distance, Story story, Use call) {
        for (Probe probe : Probe.values()) {
            ColourParts x = told(distance, story);
            Check.sameText(name, Check.outcome(() -> call.of(x)), due);
            Check.sameText(name + ", then " + probe, probe.answers(x, true), probe.answers(told(distance, story), true));
        }
    }

    /** The call answers so and changes nothing, or nothing but closed(). */
    static void changesNothing(long due, String name, long distance, Story story, Use call, boolean norClosed) {
        for (Probe probe : Probe.values()) {
            ColourParts x = told(distance, story);
            Check.same(name, call.of(x), due);
            Check.sameText(name + ", then " + probe, probe.answers(x, norClosed),
                probe.answers(told(distance, story), norClosed));
        }
    }
}
