import java.util.ArrayList;
import java.util.List;

/**
 * Runs of many calls against a model that works otherwise: it keeps a list of cell objects for every grid,
 * and has no steps or starts. The calls come from a fixed sequence, so every run of the test is the same.
 */
public final class ModelTest {
    private static final Check CHECK = new Check();
    private static final int RUNS = 1500;
    private static final int CALLS = 300;
    private static final String[] PIECES = {
        "0", "1", "-1", "2", "-2", "3", "-4", "7", ":", ":", ":", "::", "::-1", "::2", "1:", ":2", "-2:", ":-1",
        "3:0:-1", "::-2", "*", "*", "1::2", "::0", "-1:-9:-2", "5:1", " ", "", "x", "1:2:3:4", "--1", "1234567890"};

    private long seed = 0;
    private SliceViews real;
    private List<Grid> grids;
    private int made;

    private record Cell(long[] value) {
        Cell() {
            this(new long[1]);
        }
    }

    private record Grid(List<Integer> sizes, List<Cell> cells, boolean spread) {
        Cell at(List<Integer> spot) {
            int n = 0;
            for (int a = 0; a < sizes.size(); a++) {
                if (spot.get(a) < 0 || spot.get(a) >= sizes.get(a)) {
                    return null;
                }
                n = n * sizes.get(a) + spot.get(a);
            }
            return cells.get(n);
        }
    }

    public static void main(String[] args) {
        for (int run = 1; run <= RUNS; run++) {
            new ModelTest().run(run);
        }
        CHECK.end();
    }

    private void run(int number) {
        seed = number * 7919L;
        real = new SliceViews();
        grids = new ArrayList<>();
        made = 0;
        for (int n = 0; n < CALLS; n += 4) {
            doOne("run " + number + " step " + n + ": ");
        }
        for (int g = 1; g <= grids.size(); g++) {
            compareAll("run " + number + " grid " + g + ": ", g);
        }
    }

    private void compareAll(String label, int g) {
        Grid grid = grids.get(g - 1);
        CHECK.due(label + "axes", real.axes(g), grid.sizes().size());
        CHECK.due(label + "cells", real.cells(g), grid.cells().size());
        for (int a = 0; a < grid.sizes().size(); a++) {
            CHECK.due(label + "size " + a, real.size(g, a), grid.sizes().get(a));
        }
        for (int n = 0; n < Math.min(500, grid.cells().size()); n++) {
            CHECK.due(label + "cell " + n, real.cell(g, n), grid.cells().get(n).value()[0]);
        }
    }

    private int below(int bound) {
        seed = seed * 6364136223846793005L + 1442695040888963407L;
        return (int) ((seed >>> 33) % bound);
    }

    private void doOne(String label) {
        int kind = grids.size() < 2 ? 0 : below(14);
        int g = below(grids.size() + 1) + (below(12) == 0 ? 0 : 1);
        int h = below(grids.size() + 1) + (below(12) == 0 ? 0 : 1);
        switch (kind) {
            case 0 -> grid(label);
            case 1, 2, 3 -> put(label, g);
            case 4, 5, 6, 7 -> view(label, g);
            case 8 -> turned(label, g);
            case 9, 10 -> spread(label, g);
            case 11 -> shaped(label, g);
            case 12 -> copy(label, g, below(2) == 0 ? h : sameSized(g));
            default -> shares(label, g, h);
        }
    }

    private Grid model(int g) {
        return g >= 1 && g <= grids.size() ? grids.get(g - 1) : null;
    }

    private int sameSized(int g) {
        Grid grid = model(g);
        int from = below(grids.size() + 1);
        for (int n = 0; grid != null && n < grids.size(); n++) {
            int h = (from + n) % grids.size();
            if (h + 1 != g && grids.get(h).sizes().equals(grid.sizes())) {
                return h + 1;
            }
        }
        return g;
    }

    private List<Integer> sizes(Grid like) {
        List<Integer> sizes = new ArrayList<>();
        if (like != null && below(4) != 0) {
            for (int size : like.sizes()) {
                sizes.add(size == 1 && below(2) == 0 ? below(4) : size);
            }
            for (int n = below(3); n > 0 && sizes.size() < 4; n--) {
                sizes.add(0, below(4));
            }
        } else {
            for (int n = below(5); n > 0; n--) {
                sizes.add(below(40) == 0 ? 300 : below(6));
            }
        }
        sizes.forEach(real::axis);
        return sizes;
    }

    private static long count(List<Integer> sizes) {
        return sizes.stream().mapToLong(Integer::longValue).reduce(1, (a, b) -> a * b);
    }

    private int keep(Grid grid, boolean own) {
        made += own ? grid.cells().size() : 0;
        grids.add(grid);
        return grids.size();
    }

    private static Grid fresh(List<Integer> sizes) {
        List<Cell> cells = new ArrayList<>();
        for (long n = count(sizes); n > 0; n--) {
            cells.add(new Cell());
        }
        return new Grid(sizes, cells, false);
    }

    private void grid(String label) {
        List<Integer> sizes = sizes(null);
        boolean fits = made + count(sizes) <= 100000;
        CHECK.due(label + "grid " + sizes, real.grid(), fits ? keep(fresh(sizes), true) : -12);
    }

    private void put(String label, int g) {
        Grid grid = model(g);
        List<Integer> spot = new ArrayList<>();
        int indexes = grid == null || below(8) == 0 ? below(5) : grid.sizes().size();
        for (int a = 0; a < indexes; a++) {
            int size = grid == null || a >= grid.sizes().size() ? 3 : grid.sizes().get(a);
            spot.add(below(10) == 0 ? size - below(2) * (size + 1) : below(Math.max(1, size)));
        }
        spot.forEach(real::at);
        int code = grid == null ? 14 : indexes != grid.sizes().size() ? 1 : grid.at(spot) == null ? 2 : 0;
        CHECK.due(label + "get " + g + " " + spot, real.get(g), code == 0 ? grid.at(spot).value()[0] : 0);
        CHECK.due(label + "code", real.code(), code);
        spot.forEach(real::at);
        long v = below(1000000);
        int want = code == 14 || code == 1 ? -code : grid.spread() ? -5 : -code;
        CHECK.due(label + "put " + g + " " + spot, real.put(g, v), want);
        if (want == 0) {
            grid.at(spot).value()[0] = v;
        }
    }

    private String text() {
        StringBuilder out = new StringBuilder();
        for (int n = below(5); n > 0; n--) {
            out.append(PIECES[below(below(3) == 0 ? PIECES.length : 22)]).append(n > 1 ? "," : "");
        }
        if (below(5) == 0 && out.length() > 0) {
            out.insert(below(out.length()), " ");
        }
        if (below(25) == 0 && out.length() > 0) {
            out.setCharAt(below(out.length()), (char) below(256));
        }
        return out.toString();
    }

    private void view(String label, int g) {
        String text = text();
        Grid grid = model(g);
        int fault = grid == null ? -1 : ModelText.fault(text, grid.sizes());
        int want = grid == null ? -14 : fault >= 0 ? -20 : keep(viewed(grid, text), false);
        CHECK.due(label + "view " + g + " '" + text + "'", Check.view(real, g, text), want);
        CHECK.due(label + "place of '" + text + "'", real.place(), fault);
    }

    /** Picks the cells one by one: every spot of the view is told as a spot of the grid. */
    private static Grid viewed(Grid grid, String text) {
        List<List<Integer>> choices = ModelText.choices(text, grid.sizes());
        List<Integer> sizes = ModelText.newSizes(text, grid.sizes());
        List<Cell> cells = new ArrayList<>();
        pick(grid, choices, new ArrayList<>(), cells);
        return new Grid(sizes, cells, grid.spread());
    }

    private static void pick(Grid grid, List<List<Integer>> choices, List<Integer> spot, List<Cell> into) {
        if (spot.size() == choices.size()) {
            into.add(grid.at(spot));
            return;
        }
        for (int index : choices.get(spot.size())) {
            spot.add(index);
            pick(grid, choices, spot, into);
            spot.remove(spot.size() - 1);
        }
    }

    private void turned(String label, int g) {
        Grid grid = model(g);
        int a = below(5) - (below(9) == 0 ? 1 : 0);
        int b = below(3);
        int axes = grid == null ? 0 : grid.sizes().size();
        boolean there = a >= 0 && a < axes && b < axes;
        int want = grid == null ? -14 : there ? keep(turned(grid, a, b), false) : -2;
        CHECK.due(label + "turned " + g + " " + a + " " + b, real.turned(g, a, b), want);
    }

    private static Grid turned(Grid grid, int a, int b) {
        List<Integer> sizes = exchanged(grid.sizes(), a, b);
        List<Cell> cells = new ArrayList<>();
        for (List<Integer> spot : spots(sizes)) {
            cells.add(grid.at(exchanged(spot, a, b)));
        }
        return new Grid(sizes, cells, grid.spread());
    }

    private static List<Integer> exchanged(List<Integer> row, int a, int b) {
        List<Integer> out = new ArrayList<>(row);
        out.set(a, row.get(b));
        out.set(b, row.get(a));
        return out;
    }

    private static List<List<Integer>> spots(List<Integer> sizes) {
        List<List<Integer>> out = new ArrayList<>();
        out.add(List.of());
        for (int size : sizes) {
            List<List<Integer>> longer = new ArrayList<>();
            for (List<Integer> spot : out) {
                for (int i = 0; i < size; i++) {
                    List<Integer> next = new ArrayList<>(spot);
                    next.add(i);
                    longer.add(next);
                }
            }
            out = longer;
        }
        return out;
    }

    private void spread(String label, int g) {
        Grid grid = model(g);
        List<Integer> sizes = sizes(grid);
        int want = grid == null ? -14 : !together(grid.sizes(), sizes) ? -3
            : count(sizes) > 100000 ? -12 : keep(spread(grid, sizes), false);
        CHECK.due(label + "spread " + g + " " + sizes, real.spread(g), want);
    }

    private static boolean together(List<Integer> from, List<Integer> to) {
        int added = to.size() - from.size();
        for (int a = 0; added >= 0 && a < from.size(); a++) {
            if (from.get(a) != 1 && !from.get(a).equals(to.get(a + added))) {
                return false;
            }
        }
        return added >= 0;
    }

    private static Grid spread(Grid grid, List<Integer> sizes) {
        int added = sizes.size() - grid.sizes().size();
        List<Cell> cells = new ArrayList<>();
        for (List<Integer> spot : spots(sizes)) {
            List<Integer> source = new ArrayList<>();
            for (int a = 0; a < grid.sizes().size(); a++) {
                source.add(grid.sizes().get(a) == 1 ? 0 : spot.get(a + added));
            }
            cells.add(grid.at(source));
        }
        return new Grid(sizes, cells, true);
    }

    private void shaped(String label, int g) {
        Grid grid = model(g);
        List<Integer> sizes = sizes(null);
        if (grid != null && below(3) != 0 && grid.cells().size() <= 4096) {
            real.grid();
            if (made + count(sizes) <= 100000) {
                keep(fresh(sizes), true);
            }
            sizes = below(2) == 0 ? List.of(grid.cells().size()) : List.of(1, grid.cells().size());
            sizes.forEach(real::axis);
        }
        int want = grid == null ? -14 : count(sizes) != grid.cells().size() ? -3
            : made + count(sizes) > 100000 ? -12 : keep(shaped(grid, sizes), true);
        CHECK.due(label + "shaped " + g + " " + sizes, real.shaped(g), want);
    }

    private static Grid shaped(Grid grid, List<Integer> sizes) {
        Grid out = fresh(sizes);
        for (int n = 0; n < out.cells().size(); n++) {
            out.cells().get(n).value()[0] = grid.cells().get(n).value()[0];
        }
        return out;
    }

    private void copy(String label, int g, int h) {
        Grid from = model(g);
        Grid to = model(h);
        int want = from == null || to == null ? -14 : to.spread() ? -5 : from.sizes().equals(to.sizes()) ? 0 : -3;
        CHECK.due(label + "copy " + g + " " + h, real.copy(g, h), want);
        if (want == 0) {
            long[] values = from.cells().stream().mapToLong(c -> c.value()[0]).toArray();
            for (int n = 0; n < values.length; n++) {
                to.cells().get(n).value()[0] = values[n];
            }
        }
    }

    private void shares(String label, int g, int h) {
        Grid one = model(g);
        Grid other = model(h);
        int want = one == null || other == null ? -14 : meet(one, other) ? 1 : 0;
        CHECK.due(label + "shares " + g + " " + h, real.shares(g, h), want);
    }

    private static boolean meet(Grid one, Grid other) {
        java.util.Set<Object> rows = java.util.Collections.newSetFromMap(new java.util.IdentityHashMap<>());
        one.cells().forEach(c -> rows.add(c.value()));
        return other.cells().stream().anyMatch(c -> rows.contains(c.value()));
    }
}
