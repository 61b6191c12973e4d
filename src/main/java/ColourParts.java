import java.util.ArrayList;

/** Shapes of boxes, parted to colours so that near ones have other ones. */
public final class ColourParts {
    public static final int NONE = -1;

    private static final int MOST_SHAPES = 10;
    private static final int MOST_BOXES = 4;
    private static final int MOST_STITCHES = 3;
    private static final int MOST_PIECES = 12;
    private static final int MOST_COLOURS = 4;
    private static final int LEAST_COLOURS = 2;
    private static final int SHORTEST_RING = 3;
    private static final long FARTHEST = 1000000L;
    private static final long LEAST_DISTANCE = 1L;
    private static final long MOST_DISTANCE = 65536L;

    private static final int FOUND = 0;
    private static final int THERE_IS_NONE = 1;
    private static final int TOO_FEW_STEPS = 2;

    private final long square;
    private final ArrayList<Shape> shapes = new ArrayList<Shape>();
    private final int[] ringShapes = new int[MOST_PIECES];
    private int ringLength = 0;
    private Colouring kept = null;
    private boolean latestClosed = false;

    public ColourParts(long distance) {
        long nearest = Math.max(LEAST_DISTANCE, Math.min(MOST_DISTANCE, distance));
        square = nearest * nearest;
    }

    public int shape() throws IllegalStateException {
        if (shapes.size() >= MOST_SHAPES || countPieces() >= MOST_PIECES) {
            throw new IllegalStateException("no more shapes");
        }
        shapes.add(new Shape());
        return shapes.size() - 1;
    }

    public boolean corner(int shape, long x, long y)
            throws IndexOutOfBoundsException, IllegalStateException, IllegalArgumentException {
        needShape(shape);
        Shape one = shapes.get(shape);
        if (one.boxes.size() >= MOST_BOXES || one.stitchCount > 0) {
            throw new IllegalStateException("no more corners");
        }
        if (isTooFar(x) || isTooFar(y)) {
            throw new IllegalArgumentException("too far");
        }
        boolean whole = one.addCorner(x, y);
        if (whole) {
            findNearOnes(shape);
        }
        return whole;
    }

    public int near() throws IllegalStateException {
        needNoneOpen();
        int sum = 0;
        for (int i = 0; i < shapes.size(); i++) {
            sum += Integer.bitCount(shapes.get(i).nearShapes);
        }
        // Each pair was met from both its sides.
        return sum / 2;
    }

    public int run(int colours, long steps) throws IllegalStateException, IllegalArgumentException {
        needNoneOpen();
        if (colours < LEAST_COLOURS || colours > MOST_COLOURS || steps < 0) {
            throw new IllegalArgumentException("no such colours or steps");
        }
        if (countPieces() > steps) {
            latestClosed = false;
            return TOO_FEW_STEPS;
        }
        latestClosed = true;
        Pieces pieces = cutShapes();
        pieces.findNearOnes(square);
        Search search = new Search(pieces, colours);
        search.findBest();
        ringLength = 0;
        if (search.isFound()) {
            kept = new Colouring(pieces, search.best, search.fewest);
            return FOUND;
        }
        kept = null;
        if (colours == LEAST_COLOURS) {
            ringLength = pieces.findOddRing(ringShapes);
        }
        return THERE_IS_NONE;
    }

    public int colour(int shape) throws IndexOutOfBoundsException {
        needShape(shape);
        return kept == null ? NONE : kept.firstColours[shape];
    }

    public int ring(int k) throws IndexOutOfBoundsException {
        if (k < 0 || k >= ringLength) {
            throw new IndexOutOfBoundsException("no such place in the ring");
        }
        return ringShapes[k];
    }

    public int length() {
        return ringLength;
    }

    public boolean pre(int shape, int colour)
            throws IndexOutOfBoundsException, IllegalStateException, IllegalArgumentException {
        needShape(shape);
        needNoneOpen();
        if (colour != NONE && isNoColour(colour)) {
            throw new IllegalArgumentException("no such colour");
        }
        Shape one = shapes.get(shape);
        boolean other = one.told != colour;
        one.told = colour;
        return other;
    }

    public boolean stitch(int shape, long at, boolean across)
            throws IndexOutOfBoundsException, IllegalStateException, IllegalArgumentException {
        needShape(shape);
        needNoneOpen();
        Shape one = shapes.get(shape);
        if (one.boxes.size() != 1) {
            throw new IllegalStateException("more boxes than one");
        }
        if (one.hasStitch(at, across)) {
            return false;
        }
        if (one.stitchCount >= MOST_STITCHES || countPieces() >= MOST_PIECES) {
            throw new IllegalStateException("no more stitches");
        }
        if (!one.boxes.get(0).isWithin(at, across)) {
            throw new IllegalArgumentException("not strictly within");
        }
        if (one.stitchCount > 0 && one.standing != across) {
            throw new IllegalArgumentException("others are the other way");
        }
        one.addStitch(at, across);
        return true;
    }

    public int stitches() {
        return kept == null ? 0 : kept.usedInAll;
    }

    public boolean used(int shape, int k) throws IndexOutOfBoundsException {
        needShape(shape);
        // No stitch goes away but by clear(): what was there then is there now.
        if (kept == null || k < 0 || k >= kept.stitchCounts[shape]) {
            throw new IndexOutOfBoundsException("no such stitch");
        }
        return (kept.usedStitches[shape] >> k & 1) != 0;
    }

    public long balance(int colour, int part) throws IndexOutOfBoundsException, IllegalArgumentException {
        if (part < 0 || part > 1) {
            throw new IndexOutOfBoundsException("no such part");
        }
        if (isNoColour(colour)) {
            throw new IllegalArgumentException("no such colour");
        }
        if (kept == null) {
            return 0;
        }
        return part == 0 ? kept.pieceCounts[colour] : kept.areas[colour];
    }

    public int pair(int k, int side) throws IndexOutOfBoundsException, IllegalStateException {
        if (k < 0 || side < 0 || side > 1) {
            throw new IndexOutOfBoundsException("no such pair or side");
        }
        needNoneOpen();
        int met = 0;
        for (int i = 0; i < shapes.size(); i++) {
            for (int j = i + 1; j < shapes.size(); j++) {
                if (!shapes.get(i).isNearShape(j)) {
                    continue;
                }
                if (met == k) {
                    return side == 0 ? i : j;
                }
                met++;
            }
        }
        return NONE;
    }

    public boolean closed() {
        return latestClosed;
    }

    public void clear() {
        shapes.clear();
        kept = null;
        ringLength = 0;
        latestClosed = false;
    }

    private void needShape(int shape) {
        if (shape < 0 || shape >= shapes.size()) {
            throw new IndexOutOfBoundsException("no such shape");
        }
    }

    private void needNoneOpen() {
        for (int i = 0; i < shapes.size(); i++) {
            if (shapes.get(i).isOpen()) {
                throw new IllegalStateException("a shape is open");
            }
        }
    }

    private static boolean isNoColour(int colour) {
        return colour < 0 || colour >= MOST_COLOURS;
    }

    private static boolean isTooFar(long place) {
        return place < -FARTHEST || place > FARTHEST;
    }

    private int countPieces() {
        int sum = 0;
        for (int i = 0; i < shapes.size(); i++) {
            sum += shapes.get(i).stitchCount + 1;
        }
        return sum;
    }

    /** Only the newest box of the shape can bring a shape near that was not near before. */
    private void findNearOnes(int shape) {
        Shape one = shapes.get(shape);
        if (one.boxes.isEmpty()) {
            return;
        }
        Box newest = one.boxes.get(one.boxes.size() - 1);
        for (int i = 0; i < shapes.size(); i++) {
            Shape other = shapes.get(i);
            if (i != shape && newest.isNearAny(other.boxes, square)) {
                one.nearShapes |= 1 << i;
                other.nearShapes |= 1 << shape;
            }
        }
    }

    private Pieces cutShapes() {
        Pieces pieces = new Pieces();
        for (int i = 0; i < shapes.size(); i++) {
            Shape one = shapes.get(i);
            for (int k = 0; k <= one.stitchCount; k++) {
                pieces.add(i, one.told, one.pieceBoxes(k));
            }
        }
        return pieces;
    }

    /** A box with its borders; it may be a line or a point. */
    private static final class Box {
        final long left;
        final long low;
        final long right;
        final long high;

        Box(long left, long low, long right, long high) {
            this.left = left;
            this.low = low;
            this.right = right;
            this.high = high;
        }

        long area() {
            return (right - left) * (high - low);
        }

        boolean isWithin(long at, boolean across) {
            return across ? left < at && at < right : low < at && at < high;
        }

        boolean isNearAny(ArrayList<Box> others, long square) {
            for (int i = 0; i < others.size(); i++) {
                if (isNearBox(others.get(i), square)) {
                    return true;
                }
            }
            return false;
        }

        private boolean isNearBox(Box other, long square) {
            long aside = gap(left, right, other.left, other.right);
            long above = gap(low, high, other.low, other.high);
            return aside * aside + above * above < square;
        }

        private static long gap(long from, long to, long otherFrom, long otherTo) {
            return Math.max(0L, Math.max(otherFrom - to, from - otherTo));
        }
    }

    /** A shape as it is told: boxes, stitches, a colour. */
    private static final class Shape {
        final ArrayList<Box> boxes = new ArrayList<Box>();
        final long[] places = new long[MOST_STITCHES];
        int stitchCount = 0;
        boolean standing = false;
        int told = NONE;
        int nearShapes = 0;
        private boolean half = false;
        private long halfX = 0;
        private long halfY = 0;

        boolean isOpen() {
            return half || boxes.isEmpty();
        }

        boolean isNearShape(int shape) {
            return (nearShapes >> shape & 1) != 0;
        }

        boolean addCorner(long x, long y) {
            if (half) {
                boxes.add(new Box(Math.min(halfX, x), Math.min(halfY, y), Math.max(halfX, x), Math.max(halfY, y)));
                half = false;
                return true;
            }
            halfX = x;
            halfY = y;
            half = true;
            return false;
        }

        boolean hasStitch(long at, boolean across) {
            if (standing != across) {
                return false;
            }
            for (int i = 0; i < stitchCount; i++) {
                if (places[i] == at) {
                    return true;
                }
            }
            return false;
        }

        /** The places stay in order, since pieces and used() go by them. */
        void addStitch(long at, boolean across) {
            if (stitchCount >= MOST_STITCHES) {
                return;
            }
            int k = stitchCount;
            for (; k > 0 && places[k - 1] > at; k--) {
                places[k] = places[k - 1];
            }
            places[k] = at;
            stitchCount++;
            standing = across;
        }

        ArrayList<Box> pieceBoxes(int k) {
            if (stitchCount == 0 || boxes.isEmpty()) {
                return boxes;
            }
            ArrayList<Box> cut = new ArrayList<Box>();
            cut.add(cutBox(boxes.get(0), k));
            return cut;
        }

        private Box cutBox(Box whole, int k) {
            boolean hasBefore = k > 0 && k <= stitchCount;
            boolean hasAfter = k >= 0 && k < stitchCount;
            if (standing) {
                return new Box(hasBefore ? places[k - 1] : whole.left, whole.low,
                        hasAfter ? places[k] : whole.right, whole.high);
            }
            return new Box(whole.left, hasBefore ? places[k - 1] : whole.low,
                    whole.right, hasAfter ? places[k] : whole.high);
        }
    }

    /** A part of a shape between its stitches. */
    private static final class Piece {
        final int owner;
        final int told;
        final ArrayList<Box> boxes;
        int nearPieces = 0;

        Piece(int owner, int told, ArrayList<Box> boxes) {
            this.owner = owner;
            this.told = told;
            this.boxes = boxes;
        }

        long areas() {
            long sum = 0;
            for (int i = 0; i < boxes.size(); i++) {
                sum += boxes.get(i).area();
            }
            return sum;
        }

        boolean isNearPiece(Piece other, long square) {
            for (int i = 0; i < boxes.size(); i++) {
                if (boxes.get(i).isNearAny(other.boxes, square)) {
                    return true;
                }
            }
            return false;
        }
    }

    /** All pieces in their order. A set of pieces is an int with a bit for each. */
    private static final class Pieces {
        private final ArrayList<Piece> row = new ArrayList<Piece>();

        void add(int owner, int told, ArrayList<Box> boxes) {
            if (row.size() < MOST_PIECES) {
                row.add(new Piece(owner, told, boxes));
            }
        }

        int count() {
            return row.size();
        }

        int owner(int p) {
            return p < 0 || p >= row.size() ? NONE : row.get(p).owner;
        }

        int told(int p) {
            return p < 0 || p >= row.size() ? NONE : row.get(p).told;
        }

        int nearPieces(int p) {
            return p < 0 || p >= row.size() ? 0 : row.get(p).nearPieces;
        }

        long areas(int p) {
            return p < 0 || p >= row.size() ? 0 : row.get(p).areas();
        }

        boolean isAfterStitch(int p) {
            return p > 0 && owner(p) == owner(p - 1);
        }

        void findNearOnes(long square) {
            for (int i = 0; i < row.size(); i++) {
                for (int j = i + 1; j < row.size(); j++) {
                    Piece one = row.get(i);
                    Piece other = row.get(j);
                    if (one.owner != other.owner && one.isNearPiece(other, square)) {
                        one.nearPieces |= 1 << j;
                        other.nearPieces |= 1 << i;
                    }
                }
            }
        }

        /**
         * Writes the shapes of the odd ring and answers its length. Walks that may meet a piece
         * twice are enough: such a walk would part into two closed ones, an odd one among them,
         * and that is shorter; so the shortest one meets none twice.
         */
        int findOddRing(int[] shapesOut) {
            int[] walks = new int[MOST_PIECES + 1];
            for (int n = SHORTEST_RING; n <= row.size(); n += 2) {
                for (int first = 0; first < row.size(); first++) {
                    fillWalks(first, n, walks);
                    if ((walks[n] >> first & 1) != 0) {
                        writeLeastRing(first, n, walks, shapesOut);
                        return n;
                    }
                }
            }
            return 0;
        }

        /** walks[r]: the pieces from which some walk of r steps ends at the piece last. */
        private void fillWalks(int last, int steps, int[] walks) {
            walks[0] = 1 << last;
            for (int r = 1; r <= steps && r < walks.length; r++) {
                walks[r] = nearAnyOf(walks[r - 1]);
            }
        }

        private int nearAnyOf(int set) {
            int all = 0;
            for (int p = 0; p < row.size(); p++) {
                if ((set >> p & 1) != 0) {
                    all |= nearPieces(p);
                }
            }
            return all;
        }

        private void writeLeastRing(int first, int n, int[] walks, int[] shapesOut) {
            int piece = first;
            for (int k = 0; k < n && k < shapesOut.length && n - k - 1 < walks.length; k++) {
                shapesOut[k] = owner(piece);
                piece = Integer.numberOfTrailingZeros(nearPieces(piece) & walks[n - k - 1]);
            }
        }
    }

    /** The search for the best colouring: the lesser colours first, so the first of several stays. */
    private static final class Search {
        private final int colours;
        private final int count;
        private final int[] near = new int[MOST_PIECES];
        private final int[] told = new int[MOST_PIECES];
        private final boolean[] afterStitch = new boolean[MOST_PIECES];
        /** The pieces that have each colour; told ones from the start, so that others keep away early. */
        private final int[] holders = new int[MOST_COLOURS];
        private final int[] row = new int[MOST_PIECES];
        final int[] best = new int[MOST_PIECES];
        /** More than any colouring uses, as long as none is found. */
        int fewest = MOST_PIECES;

        Search(Pieces pieces, int colours) {
            this.colours = Math.max(0, Math.min(MOST_COLOURS, colours));
            count = Math.min(MOST_PIECES, pieces.count());
            for (int p = 0; p < count; p++) {
                near[p] = pieces.nearPieces(p);
                told[p] = pieces.told(p);
                afterStitch[p] = pieces.isAfterStitch(p);
            }
        }

        boolean isFound() {
            return fewest < MOST_PIECES;
        }

        void findBest() {
            int met = 0;
            for (int p = 0; p < count; p++) {
                // A piece told a colour that there is not is a dead end from the start.
                if (told[p] >= 0 && told[p] < colours) {
                    holders[told[p]] |= 1 << p;
                    met |= 1 << told[p];
                }
            }
            goOn(0, 0, met);
        }

        /**
         * Colours piece p and those after it. Of the colours not met so far (neither told nor
         * given before) only the least is tried: with two of them exchanged a colouring is as
         * good, and a lesser one comes first.
         */
        private void goOn(int p, int usedSoFar, int met) {
            if (usedSoFar >= fewest || isDeadEnd(p)) {
                return;
            }
            if (p >= count) {
                fewest = usedSoFar;
                System.arraycopy(row, 0, best, 0, MOST_PIECES);
                return;
            }
            boolean newOneTried = false;
            for (int c = 0; c < colours; c++) {
                boolean isNew = (met >> c & 1) == 0;
                if (canHave(p, c) && !(isNew && newOneTried)) {
                    tryColour(p, c, usedSoFar, met | 1 << c);
                }
                newOneTried = newOneTried || isNew;
            }
        }

        private void tryColour(int p, int c, int usedSoFar, int met) {
            if (p < 0 || p >= count || c < 0 || c >= colours) {
                return;
            }
            boolean isUsed = p > 0 && afterStitch[p] && row[p - 1] != c;
            int before = holders[c];
            row[p] = c;
            holders[c] = before | 1 << p;
            goOn(p + 1, isUsed ? usedSoFar + 1 : usedSoFar, met);
            holders[c] = before;
        }

        private boolean canHave(int p, int c) {
            return (told[p] == NONE || told[p] == c) && (near[p] & holders[c]) == 0;
        }

        /** Whether some piece from p on has no colour left. */
        private boolean isDeadEnd(int p) {
            for (int q = p; q < count; q++) {
                boolean hasChoice = false;
                for (int c = 0; c < colours && !hasChoice; c++) {
                    hasChoice = canHave(q, c);
                }
                if (!hasChoice) {
                    return true;
                }
            }
            return false;
        }
    }

    /** A colouring kept, with all that is asked of it, as the shapes were then. */
    private static final class Colouring {
        final int[] firstColours = new int[MOST_SHAPES];
        final int[] stitchCounts = new int[MOST_SHAPES];
        /** For each shape a bit for each of its stitches. */
        final int[] usedStitches = new int[MOST_SHAPES];
        final int[] pieceCounts = new int[MOST_COLOURS];
        final long[] areas = new long[MOST_COLOURS];
        final int usedInAll;

        Colouring(Pieces pieces, int[] colours, int usedInAll) {
            this.usedInAll = usedInAll;
            for (int s = 0; s < MOST_SHAPES; s++) {
                firstColours[s] = NONE;
            }
            for (int p = 0; p < pieces.count() && p < colours.length; p++) {
                weigh(colours[p], pieces.areas(p));
                if (pieces.isAfterStitch(p)) {
                    noteStitch(pieces.owner(p), colours[p - 1] != colours[p]);
                } else {
                    noteFirst(pieces.owner(p), colours[p]);
                }
            }
        }

        private void weigh(int colour, long area) {
            if (colour >= 0 && colour < MOST_COLOURS) {
                pieceCounts[colour]++;
                areas[colour] += area;
            }
        }

        private void noteFirst(int shape, int colour) {
            if (shape >= 0 && shape < MOST_SHAPES) {
                firstColours[shape] = colour;
            }
        }

        private void noteStitch(int shape, boolean isUsed) {
            if (shape >= 0 && shape < MOST_SHAPES) {
                usedStitches[shape] |= (isUsed ? 1 : 0) << stitchCounts[shape];
                stitchCounts[shape]++;
            }
        }
    }
}
