/**
 * Ways to go on with an object, so that what is inside it comes to light: if two objects differ in
 * anything, one of these tells it. Each makes less than 400 calls, since an object is good for 512.
 */
enum Probe {
    ASK, RUN_2, RUN_3, RUN_4, TOO_FEW_STEPS, MORE_CORNERS, TELL_NONE, TELL_0, TELL_1, TELL_2, TELL_3,
    MORE_STITCHES, MORE_SHAPES, CLEAR;

    private static final int SHAPES = 10;
    /** The stories that end with a probe put their stitches below this. */
    private static final int PLACES = 11;

    String answers(ColourParts x, boolean withClosed) {
        StringBuilder text = new StringBuilder();
        switch (this) {
            case RUN_2: run(x, text, 2, 12); break;
            case RUN_3: run(x, text, 3, 12); break;
            case RUN_4: run(x, text, 4, 12); break;
            case TOO_FEW_STEPS: run(x, text, 2, 0); break;
            case MORE_CORNERS: moreCorners(x, text); break;
            case TELL_NONE: case TELL_0: case TELL_1: case TELL_2: case TELL_3:
                tell(x, text, ordinal() - TELL_0.ordinal()); break;
            case MORE_STITCHES: moreStitches(x, text); break;
            case MORE_SHAPES: moreShapes(x, text); break;
            case CLEAR: x.clear(); break;
            default: break;
        }
        ask(x, text);
        if (withClosed) {
            note(text, "closed", () -> Check.flag(x.closed()));
        }
        return text.toString();
    }

    private static void run(ColourParts x, StringBuilder text, int colours, int steps) {
        note(text, "run", () -> x.run(colours, steps));
    }

    /** Closes what is open, too. */
    private static void moreCorners(ColourParts x, StringBuilder text) {
        for (int s = 0; s < SHAPES; s++) {
            int one = s;
            String first = Check.outcome(() -> Check.flag(x.corner(one, 3, 4)));
            text.append("corner ").append(first).append("; ");
            if (first.equals("0")) {
                note(text, "corner", () -> Check.flag(x.corner(one, 6, 7)));
            }
        }
        run(x, text, 4, 12);
    }

    /** The answers say which shapes had that colour told. */
    private static void tell(ColourParts x, StringBuilder text, int colour) {
        for (int s = 0; s < SHAPES; s++) {
            int one = s;
            note(text, "pre(" + s + ")", () -> Check.flag(x.pre(one, colour)));
        }
    }

    /** The answers say where the stitches are. */
    private static void moreStitches(ColourParts x, StringBuilder text) {
        for (int s = 0; s < SHAPES; s++) {
            for (int i = 0; i < 2 * PLACES; i++) {
                int one = s;
                int at = i / 2;
                boolean across = i % 2 == 0;
                note(text, "stitch(" + s + ", " + at + ")", () -> Check.flag(x.stitch(one, at, across)));
            }
        }
        run(x, text, 2, 12);
    }

    private static void moreShapes(ColourParts x, StringBuilder text) {
        for (int i = 0; i < SHAPES + 1; i++) {
            String answer = Check.outcome(() -> x.shape());
            text.append("shape ").append(answer).append("; ");
            if (!answer.contains("throws")) {
                int s = Integer.parseInt(answer);
                note(text, "corner", () -> Check.flag(x.corner(s, 1, 1)));
                note(text, "corner", () -> Check.flag(x.corner(s, 1, 1)));
            }
        }
    }

    private static void ask(ColourParts x, StringBuilder text) {
        note(text, "near", x::near);
        note(text, "length", x::length);
        note(text, "stitches", x::stitches);
        for (int i = 0; i < SHAPES + 1; i++) {
            int k = i;
            note(text, "colour(" + k + ")", () -> x.colour(k));
            note(text, "ring(" + k + ")", () -> x.ring(k));
            note(text, "pair(" + k + ", 0)", () -> x.pair(k, 0));
            note(text, "pair(" + k + ", 1)", () -> x.pair(k, 1));
            for (int m = 0; m < 3; m++) {
                int stitch = m;
                note(text, "used(" + k + ", " + m + ")", () -> Check.flag(x.used(k, stitch)));
            }
        }
        for (int c = 0; c < 4; c++) {
            int colour = c;
            note(text, "balance(" + c + ", 0)", () -> x.balance(colour, 0));
            note(text, "balance(" + c + ", 1)", () -> x.balance(colour, 1));
        }
    }

    private static void note(StringBuilder text, String name, Check.Call call) {
        text.append(name).append(' ').append(Check.outcome(call)).append("; ");
    }
}
