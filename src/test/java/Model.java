import java.util.ArrayList;
import java.util.Arrays;
import java.util.List;
import java.util.function.UnaryOperator;

/**
 * The document's promises once more, built otherwise than the class: a grid is a list of the numbers of its
 * cells in row order, and has no start and no steps.
 */
final class Model {
    private static final int ROOM = 100000;

    private record Grid(int[] sizes, int[] cells, boolean spread) {
        /** The number in row order of the spot, or -1. */
        int numberOf(int[] spot) {
            int n = 0;
            for (int a = 0; a < sizes.length; a++) {
                if (spot[a] < 0 || spot[a] >= sizes[a]) {
                    return -1;
                }
                n = n * sizes[a] + spot[a];
            }
            return n;
        }
    }

    private final long[] values = new long[ROOM];
    private final List<Grid> grids = new ArrayList<>();
    private final List<Integer> sizes = new ArrayList<>();
    private final List<Integer> spot = new ArrayList<>();
    private final StringBuilder tray = new StringBuilder();
    private int fed = 0;
    private int made = 0;
    private int code = 0;
    private int place = -1;

    int feed(int... five) {
        if (tray.length() + 20 > 16000 || fed + 20 > 65536) {
            return -1;
        }
        fed += 20;
        for (int n = 0; n < 20; n++) {
            tray.append((char) (five[n / 4] >>> 8 * (3 - n % 4) & 255));
        }
        return tray.length();
    }

    int end(int n) {
        if (n < 0 || n > tray.length()) {
            return -1;
        }
        tray.setLength(n);
        return n;
    }

    int axis(int n) {
        return n < 0 || n > 4096 ? -1 : collect(sizes, n);
    }

    int at(int i) {
        return collect(spot, i);
    }

    int grid() {
        int[] told = take(sizes);
        return hasRoom(told) ? keep(fresh(told)) : -12;
    }

    int put(int g, long v) {
        int[] told = take(spot);
        Grid grid = grid(g);
        if (grid == null) {
            return -14;
        }
        if (told.length != grid.sizes.length) {
            return -1;
        }
        if (grid.spread) {
            return -5;
        }
        int n = grid.numberOf(told);
        if (n < 0) {
            return -2;
        }
        values[grid.cells[n]] = v;
        return 0;
    }

    long get(int g) {
        int[] told = take(spot);
        Grid grid = grid(g);
        code = grid == null ? 14 : told.length != grid.sizes.length ? 1 : grid.numberOf(told) < 0 ? 2 : 0;
        return code == 0 ? values[grid.cells[grid.numberOf(told)]] : 0;
    }

    long cell(int g, int n) {
        Grid grid = grid(g);
        code = grid == null ? 14 : n < 0 || n >= grid.cells.length ? 2 : 0;
        return code == 0 ? values[grid.cells[n]] : 0;
    }

    int code() {
        return code;
    }

    int axes(int g) {
        return grid(g) == null ? -14 : grid(g).sizes.length;
    }

    int size(int g, int axis) {
        Grid grid = grid(g);
        return grid == null ? -14 : hasAxis(grid, axis) ? grid.sizes[axis] : -2;
    }

    int cells(int g) {
        return grid(g) == null ? -14 : grid(g).cells.length;
    }

    int view(int g) {
        String text = tray.toString();
        tray.setLength(0);
        Grid grid = grid(g);
        place = grid == null ? -1 : ModelText.fault(text, asList(grid.sizes));
        if (grid == null) {
            return -14;
        }
        if (place >= 0) {
            return -20;
        }
        return isFull() ? -12 : keep(viewed(grid, text));
    }

    int place() {
        return place;
    }

    int turned(int g, int a, int b) {
        Grid grid = grid(g);
        if (grid == null) {
            return -14;
        }
        if (!hasAxis(grid, a) || !hasAxis(grid, b)) {
            return -2;
        }
        return isFull() ? -12 : keep(mapped(grid, exchanged(grid.sizes, a, b), s -> exchanged(s, a, b), grid.spread));
    }

    int spread(int g) {
        int[] told = take(sizes);
        Grid grid = grid(g);
        if (grid == null) {
            return -14;
        }
        if (!goTogether(grid.sizes, told)) {
            return -3;
        }
        return isFull() || count(told) > ROOM ? -12 : keep(mapped(grid, told, s -> narrowed(s, grid.sizes), true));
    }

    int shaped(int g) {
        int[] told = take(sizes);
        Grid grid = grid(g);
        if (grid == null) {
            return -14;
        }
        if (count(told) != grid.cells.length) {
            return -3;
        }
        if (!hasRoom(told)) {
            return -12;
        }
        Grid out = fresh(told);
        transfer(grid, out);
        return keep(out);
    }

    int copy(int g, int h) {
        if (grid(g) == null || grid(h) == null) {
            return -14;
        }
        if (grid(h).spread) {
            return -5;
        }
        if (!Arrays.equals(grid(g).sizes, grid(h).sizes)) {
            return -3;
        }
        transfer(grid(g), grid(h));
        return 0;
    }

    int shares(int g, int h) {
        if (grid(g) == null || grid(h) == null) {
            return -14;
        }
        boolean[] mine = new boolean[ROOM];
        for (int id : grid(g).cells) {
            mine[id] = true;
        }
        return Arrays.stream(grid(h).cells).anyMatch(id -> mine[id]) ? 1 : 0;
    }

    int gridCount() {
        return grids.size();
    }

    /** The sizes of a grid, or null if there is no such grid. */
    int[] sizesOf(int g) {
        return grid(g) == null ? null : grid(g).sizes;
    }

    private Grid grid(int g) {
        return g >= 1 && g <= grids.size() ? grids.get(g - 1) : null;
    }

    private static boolean hasAxis(Grid grid, int a) {
        return a >= 0 && a < grid.sizes.length;
    }

    private boolean isFull() {
        return grids.size() == 400;
    }

    private boolean hasRoom(int[] told) {
        return !isFull() && made + count(told) <= ROOM;
    }

    private int keep(Grid grid) {
        grids.add(grid);
        return grids.size();
    }

    private Grid fresh(int[] told) {
        int[] ids = new int[(int) count(told)];
        Arrays.setAll(ids, n -> made + n);
        made += ids.length;
        return new Grid(told, ids, false);
    }

    private void transfer(Grid from, Grid to) {
        long[] kept = Arrays.stream(from.cells).mapToLong(id -> values[id]).toArray();
        for (int n = 0; n < kept.length; n++) {
            values[to.cells[n]] = kept[n];
        }
    }

    /** A grid of these sizes; for each of its spots the function tells the spot of the source with its cell. */
    private static Grid mapped(Grid source, int[] newSizes, UnaryOperator<int[]> spotOf, boolean spread) {
        int[] ids = new int[(int) count(newSizes)];
        Arrays.setAll(ids, n -> source.cells[source.numberOf(spotOf.apply(spotOfNumber(n, newSizes)))]);
        return new Grid(newSizes, ids, spread);
    }

    private static int[] spotOfNumber(int n, int[] sizes) {
        int[] out = new int[sizes.length];
        int left = n;
        for (int a = sizes.length - 1; a >= 0; a--) {
            out[a] = left % sizes[a];
            left /= sizes[a];
        }
        return out;
    }

    private static int[] exchanged(int[] row, int a, int b) {
        int[] out = row.clone();
        out[a] = row[b];
        out[b] = row[a];
        return out;
    }

    private static boolean goTogether(int[] from, int[] to) {
        int added = to.length - from.length;
        for (int a = 0; added >= 0 && a < from.length; a++) {
            if (from[a] != 1 && from[a] != to[a + added]) {
                return false;
            }
        }
        return added >= 0;
    }

    private static int[] narrowed(int[] wide, int[] sizes) {
        int[] out = Arrays.copyOfRange(wide, wide.length - sizes.length, wide.length);
        Arrays.setAll(out, a -> sizes[a] == 1 ? 0 : out[a]);
        return out;
    }

    /** A place and a new axis have one choice each, so the row order is that of the grid's choices. */
    private static Grid viewed(Grid grid, String text) {
        int[] newSizes = asArray(ModelText.newSizes(text, asList(grid.sizes)));
        int[] ids = new int[(int) count(newSizes)];
        if (ids.length > 0) {
            pick(grid, ModelText.choices(text, asList(grid.sizes)), 0, 0, ids, 0);
        }
        return new Grid(newSizes, ids, grid.spread);
    }

    private static int pick(Grid grid, List<List<Integer>> choices, int a, int number, int[] into, int filled) {
        if (a == choices.size()) {
            into[filled] = grid.cells[number];
            return filled + 1;
        }
        int now = filled;
        for (int index : choices.get(a)) {
            now = pick(grid, choices, a + 1, number * grid.sizes[a] + index, into, now);
        }
        return now;
    }

    private static int collect(List<Integer> row, int value) {
        if (row.size() == 4) {
            return -1;
        }
        row.add(value);
        return row.size();
    }

    private static int[] take(List<Integer> row) {
        int[] out = asArray(row);
        row.clear();
        return out;
    }

    private static long count(int[] sizes) {
        return Arrays.stream(sizes).asLongStream().reduce(1, (a, b) -> a * b);
    }

    private static List<Integer> asList(int[] row) {
        return Arrays.stream(row).boxed().toList();
    }

    private static int[] asArray(List<Integer> row) {
        return row.stream().mapToInt(Integer::intValue).toArray();
    }
}
