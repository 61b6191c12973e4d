import java.util.ArrayList;
import java.util.Arrays;
import java.util.List;

/**
 * The document once more, in another and much plainer way: all is looked at anew in every call,
 * all colourings and all rows of pieces are gone through. Only the answers are of use here.
 */
final class PlainModel {
    private static final class Told {
        final List<long[]> corners = new ArrayList<>();
        final List<Long> stitches = new ArrayList<>();
        boolean across;
        int colour = -1;

        boolean open() {
            return corners.isEmpty() || corners.size() % 2 != 0;
        }

        List<long[]> boxes() {
            List<long[]> all = new ArrayList<>();
            for (int i = 0; i + 1 < corners.size(); i += 2) {
                long[] a = corners.get(i);
                long[] b = corners.get(i + 1);
                all.add(new long[] {Math.min(a[0], b[0]), Math.min(a[1], b[1]),
                    Math.max(a[0], b[0]), Math.max(a[1], b[1])});
            }
            return all;
        }

        List<List<long[]>> pieces() {
            List<List<long[]>> all = new ArrayList<>();
            if (stitches.isEmpty()) {
                all.add(boxes());
                return all;
            }
            int low = across ? 0 : 1;
            long[] rest = boxes().get(0);
            for (long at : stitches) {
                long[] cut = rest.clone();
                cut[low + 2] = at;
                rest = rest.clone();
                rest[low] = at;
                all.add(List.of(cut));
            }
            all.add(List.of(rest));
            return all;
        }
    }

    private final long distance;
    private List<Told> shapes = new ArrayList<>();
    private boolean closed;
    private List<Integer> ring = new ArrayList<>();
    private boolean kept;
    private int[] keptColours;
    private List<Integer> keptOwners;
    private List<Long> keptAreas;

    PlainModel(long distance) {
        this.distance = distance < 1 ? 1 : distance > 65536 ? 65536 : distance;
    }

    int shape() {
        state(shapes.size() == 10 || pieceCount() == 12);
        shapes.add(new Told());
        return shapes.size() - 1;
    }

    boolean corner(int shape, long x, long y) {
        place(shape < 0 || shape >= shapes.size());
        Told t = shapes.get(shape);
        state(t.corners.size() == 8 || !t.stitches.isEmpty());
        argument(x < -1000000 || x > 1000000 || y < -1000000 || y > 1000000);
        t.corners.add(new long[] {x, y});
        return t.corners.size() % 2 == 0;
    }

    int near() {
        open();
        return pairs().size();
    }

    int pair(int k, int side) {
        place(k < 0 || side != 0 && side != 1);
        open();
        List<int[]> all = pairs();
        return k < all.size() ? all.get(k)[side] : -1;
    }

    boolean pre(int shape, int colour) {
        place(shape < 0 || shape >= shapes.size());
        open();
        argument(colour < -1 || colour > 3);
        Told t = shapes.get(shape);
        int before = t.colour;
        t.colour = colour;
        return before != colour;
    }

    boolean stitch(int shape, long at, boolean across) {
        place(shape < 0 || shape >= shapes.size());
        open();
        Told t = shapes.get(shape);
        boolean there = t.across == across && t.stitches.contains(at);
        state(t.corners.size() > 2);
        state(!there && (t.stitches.size() == 3 || pieceCount() == 12));
        long[] box = t.boxes().get(0);
        int low = across ? 0 : 1;
        argument(at <= box[low] || at >= box[low + 2]);
        argument(!t.stitches.isEmpty() && t.across != across);
        if (there) {
            return false;
        }
        t.across = across;
        t.stitches.add(at);
        t.stitches.sort(Long::compare);
        return true;
    }

    int run(int colours, long steps) {
        open();
        argument(colours < 2 || colours > 4 || steps < 0);
        closed = pieceCount() <= steps;
        if (!closed) {
            return 2;
        }
        List<List<long[]>> boxes = new ArrayList<>();
        List<Integer> owners = new ArrayList<>();
        for (int s = 0; s < shapes.size(); s++) {
            for (List<long[]> piece : shapes.get(s).pieces()) {
                boxes.add(piece);
                owners.add(s);
            }
        }
        int n = owners.size();
        boolean[][] near = new boolean[n][n];
        for (int i = 0; i < n; i++) {
            for (int j = 0; j < n; j++) {
                near[i][j] = !owners.get(i).equals(owners.get(j)) && anyNear(boxes.get(i), boxes.get(j));
            }
        }
        keep(best(colours, near, owners), owners, boxes);
        ring = new ArrayList<>();
        if (!kept && colours == 2) {
            for (int size = 3; size <= n && ring.isEmpty(); size += 2) {
                int[] row = new int[size];
                if (findRow(row, 0, near)) {
                    for (int p : row) {
                        ring.add(owners.get(p));
                    }
                }
            }
        }
        return kept ? 0 : 1;
    }

    int colour(int shape) {
        place(shape < 0 || shape >= shapes.size());
        return kept && keptOwners.contains(shape) ? keptColours[keptOwners.indexOf(shape)] : -1;
    }

    int ring(int k) {
        place(k < 0 || k >= ring.size());
        return ring.get(k);
    }

    int length() {
        return ring.size();
    }

    int stitches() {
        int sum = 0;
        for (int p = 1; kept && p < keptColours.length; p++) {
            if (keptOwners.get(p).equals(keptOwners.get(p - 1)) && keptColours[p] != keptColours[p - 1]) {
                sum++;
            }
        }
        return sum;
    }

    boolean used(int shape, int k) {
        place(shape < 0 || shape >= shapes.size());
        place(k < 0 || k >= shapes.get(shape).stitches.size() || !kept || !keptOwners.contains(shape));
        int before = keptOwners.indexOf(shape) + k;
        place(before + 1 > keptOwners.lastIndexOf(shape));
        return keptColours[before] != keptColours[before + 1];
    }

    long balance(int colour, int part) {
        place(part != 0 && part != 1);
        argument(colour < 0 || colour > 3);
        long sum = 0;
        for (int p = 0; kept && p < keptColours.length; p++) {
            if (keptColours[p] == colour) {
                sum += part == 0 ? 1 : keptAreas.get(p);
            }
        }
        return sum;
    }

    boolean closed() {
        return closed;
    }

    void clear() {
        shapes = new ArrayList<>();
        closed = false;
        kept = false;
        ring = new ArrayList<>();
    }

    private void keep(int[] colours, List<Integer> owners, List<List<long[]>> boxes) {
        kept = colours != null;
        keptColours = colours;
        keptOwners = owners;
        keptAreas = new ArrayList<>();
        for (List<long[]> piece : boxes) {
            long sum = 0;
            for (long[] b : piece) {
                sum += (b[2] - b[0]) * (b[3] - b[1]);
            }
            keptAreas.add(sum);
        }
    }

    /** All rows of colours as numbers with so many digits; null if none of them is a colouring. */
    private int[] best(int colours, boolean[][] near, List<Integer> owners) {
        int n = owners.size();
        int[] row = new int[n];
        int[] found = null;
        int fewest = Integer.MAX_VALUE;
        while (true) {
            int used = fits(row, near, owners) ? usedBy(row, owners) : Integer.MAX_VALUE;
            if (used < fewest) {
                fewest = used;
                found = row.clone();
            }
            int p = n - 1;
            while (p >= 0 && row[p] == colours - 1) {
                row[p--] = 0;
            }
            if (p < 0) {
                return found;
            }
            row[p]++;
        }
    }

    private boolean fits(int[] row, boolean[][] near, List<Integer> owners) {
        for (int i = 0; i < row.length; i++) {
            int told = shapes.get(owners.get(i)).colour;
            if (told != -1 && told != row[i]) {
                return false;
            }
            for (int j = 0; j < i; j++) {
                if (near[i][j] && row[i] == row[j]) {
                    return false;
                }
            }
        }
        return true;
    }

    private static int usedBy(int[] row, List<Integer> owners) {
        int used = 0;
        for (int p = 1; p < row.length; p++) {
            used += owners.get(p).equals(owners.get(p - 1)) && row[p] != row[p - 1] ? 1 : 0;
        }
        return used;
    }

    private static boolean findRow(int[] row, int k, boolean[][] near) {
        if (k == row.length) {
            return near[row[k - 1]][row[0]];
        }
        for (int p = 0; p < near.length; p++) {
            int piece = p;
            if (k > 0 && !near[row[k - 1]][p] || Arrays.stream(row, 0, k).anyMatch(q -> q == piece)) {
                continue;
            }
            row[k] = p;
            if (findRow(row, k + 1, near)) {
                return true;
            }
        }
        return false;
    }

    private List<int[]> pairs() {
        List<int[]> all = new ArrayList<>();
        for (int i = 0; i < shapes.size(); i++) {
            for (int j = i + 1; j < shapes.size(); j++) {
                if (anyNear(shapes.get(i).boxes(), shapes.get(j).boxes())) {
                    all.add(new int[] {i, j});
                }
            }
        }
        return all;
    }

    private boolean anyNear(List<long[]> some, List<long[]> others) {
        for (long[] a : some) {
            for (long[] b : others) {
                long dx = b[0] > a[2] ? b[0] - a[2] : a[0] > b[2] ? a[0] - b[2] : 0;
                long dy = b[1] > a[3] ? b[1] - a[3] : a[1] > b[3] ? a[1] - b[3] : 0;
                if (dx * dx + dy * dy < distance * distance) {
                    return true;
                }
            }
        }
        return false;
    }

    private int pieceCount() {
        int sum = shapes.size();
        for (Told t : shapes) {
            sum += t.stitches.size();
        }
        return sum;
    }

    private void open() {
        for (Told t : shapes) {
            state(t.open());
        }
    }

    private static void place(boolean bad) {
        if (bad) {
            throw new IndexOutOfBoundsException();
        }
    }

    private static void state(boolean bad) {
        if (bad) {
            throw new IllegalStateException();
        }
    }

    private static void argument(boolean bad) {
        if (bad) {
            throw new IllegalArgumentException();
        }
    }
}
