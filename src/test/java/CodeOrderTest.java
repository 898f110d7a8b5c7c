/**
 * "CODES, in this order: -14 no such grid; -1 another number of indexes; -5 a spread view; -3 sizes that do not go
 * together; -2 no such spot or axis; -12 no room": calls with two reasons to be refused answer the first.
 */
public final class CodeOrderTest {
    private static final Check CHECK = new Check();

    public static void main(String[] args) {
        put();
        get();
        cellAndSize();
        view();
        turned();
        spread();
        shaped();
        copy();
        noSuchGrid();
        CHECK.end();
    }

    /** Grid 1 is 2 by 3, grid 2 a spread view of 2 by 2 by 3; each later one is a view, up to the last number. */
    private static SliceViews full() {
        SliceViews x = few();
        for (int n = 3; n <= 400; n++) {
            x.turned(1, 0, 0);
        }
        return x;
    }

    private static SliceViews few() {
        SliceViews x = new SliceViews();
        Check.grid(x, 2, 3);
        Check.put(x, 1, 8, 1, 2);
        Check.spread(x, 1, 2, 2, 3);
        return x;
    }

    private static void put() {
        SliceViews x = few();
        CHECK.due("-14 before -1 and -2", Check.put(x, 3, 1, 9), -14);
        CHECK.due("-1 before -5", Check.put(x, 2, 1, 0, 0), -1);
        CHECK.due("-1 before -5 and -2", Check.put(x, 2, 1, 9, 9), -1);
        CHECK.due("-1 before -2", Check.put(x, 1, 1, 9), -1);
        CHECK.due("-1 before -2, too many", Check.put(x, 1, 1, 9, 9, 9), -1);
        CHECK.due("-5 before -2", Check.put(x, 2, 1, 9, 9, 9), -5);
        CHECK.due("-5 alone", Check.put(x, 2, 1, 0, 0, 0), -5);
        CHECK.due("-2 alone", Check.put(x, 1, 1, 1, 3), -2);
        CHECK.dueText("none is written", Check.shown(x, 1), "(2,3) 0 0 0 0 0 8");
    }

    private static void get() {
        SliceViews x = few();
        read(x, "14 before 1 and 2", Check.get(x, 3, 9), 0, 14);
        read(x, "1 before 2", Check.get(x, 1, 9), 0, 1);
        read(x, "1 before 2, too many", Check.get(x, 1, 9, 9, 9), 0, 1);
        read(x, "2 alone", Check.get(x, 1, 1, 3), 0, 2);
        read(x, "a spread view is read", Check.get(x, 2, 1, 1, 2), 8, 0);
        read(x, "a spread view at another number of indexes", Check.get(x, 2, 1, 2), 0, 1);
        read(x, "a spread view at no spot", Check.get(x, 2, 2, 1, 2), 0, 2);
    }

    private static void read(SliceViews x, String call, long got, long want, int code) {
        CHECK.due(call, got, want);
        CHECK.due(call + ": code", x.code(), code);
    }

    private static void cellAndSize() {
        SliceViews x = few();
        read(x, "cell: 14 before 2", x.cell(3, -1), 0, 14);
        read(x, "cell: 2 alone", x.cell(1, 6), 0, 2);
        CHECK.due("size: -14 before -2", x.size(3, -1), -14);
        CHECK.due("size: -2 alone", x.size(1, 2), -2);
    }

    private static void view() {
        SliceViews x = full();
        CHECK.due("-14 before -20 and -12", Check.view(x, 401, "?"), -14);
        CHECK.due("no place", x.place(), -1);
        CHECK.due("-20 before -12, a byte", Check.view(x, 1, "?"), -20);
        CHECK.due("-20 before -12, an item", Check.view(x, 1, "*, 2"), -20);
        CHECK.due("its place", x.place(), 3);
        CHECK.due("-20 before -12, the axes", Check.view(x, 1, "*,*,*"), -20);
        CHECK.due("its place", x.place(), 5);
        CHECK.due("-12 alone", Check.view(x, 1, "1"), -12);
        CHECK.due("no place", x.place(), -1);
        CHECK.due("-14 before -20", Check.view(few(), 3, "?"), -14);
    }

    private static void turned() {
        SliceViews x = full();
        CHECK.due("-14 before -2 and -12", x.turned(401, 9, 9), -14);
        CHECK.due("-14 before -12", x.turned(401, 0, 1), -14);
        CHECK.due("-2 before -12", x.turned(1, 0, 2), -2);
        CHECK.due("-2 before -12", x.turned(1, -1, 0), -2);
        CHECK.due("-12 alone", x.turned(1, 0, 1), -12);
    }

    private static void spread() {
        SliceViews x = full();
        CHECK.due("-14 before -3 and -12", Check.spread(x, 401, 9), -14);
        CHECK.due("-3 before no number", Check.spread(x, 1, 3, 3), -3);
        CHECK.due("-12 alone", Check.spread(x, 1, 2, 3), -12);
        SliceViews y = few();
        CHECK.due("-14 before too many cells", Check.spread(y, 3, 4096, 4096), -14);
        CHECK.due("-3 before too many cells", Check.spread(y, 1, 4096, 4096), -3);
        CHECK.due("-12 by too many cells", Check.spread(y, 1, 4096, 4096, 2, 3), -12);
        CHECK.due("a spread view is spread", Check.spread(y, 2, 2, 2, 2, 3), 3);
    }

    private static void shaped() {
        SliceViews x = full();
        CHECK.due("-14 before -3 and -12", Check.shaped(x, 401, 5), -14);
        CHECK.due("-3 before no number", Check.shaped(x, 1, 5), -3);
        CHECK.due("-12 alone", Check.shaped(x, 1, 6), -12);
        SliceViews y = new SliceViews();
        Check.grid(y, 300, 300);
        CHECK.due("-14 before no cells", Check.shaped(y, 2, 300, 300), -14);
        CHECK.due("-3 before no cells", Check.shaped(y, 1, 300, 301), -3);
        CHECK.due("-3 before no cells, above 100000", Check.shaped(y, 1, 4096, 4096), -3);
        CHECK.due("-12 by no cells", Check.shaped(y, 1, 300, 300), -12);
        CHECK.due("a spread view is shaped", Check.shaped(few(), 2, 12), 3);
    }

    private static void copy() {
        SliceViews x = few();
        CHECK.due("no g: -14 before -5 and -3", x.copy(3, 2), -14);
        CHECK.due("no h: -14 before -3", x.copy(1, 3), -14);
        CHECK.due("no h of a spread g", x.copy(2, 3), -14);
        CHECK.due("-5 before -3", x.copy(1, 2), -5);
        CHECK.due("-5 alone", x.copy(2, 2), -5);
        CHECK.due("a spread g of other sizes", x.copy(2, 1), -3);
        CHECK.dueText("none is written", Check.shown(x, 1), "(2,3) 0 0 0 0 0 8");
    }

    /** Each call that names a grid, by the numbers around the grids that there are. */
    private static void noSuchGrid() {
        for (int g : new int[] {0, 3, -1, 400, 401, Integer.MIN_VALUE, Integer.MAX_VALUE}) {
            SliceViews x = few();
            String before = Check.all(x);
            CHECK.due("put " + g, Check.put(x, g, 1, 0, 0), -14);
            read(x, "get " + g, Check.get(x, g, 0, 0), 0, 14);
            x.cell(1, 0);
            read(x, "cell " + g, x.cell(g, 0), 0, 14);
            CHECK.due("axes " + g, x.axes(g), -14);
            CHECK.due("size " + g, x.size(g, 0), -14);
            CHECK.due("cells " + g, x.cells(g), -14);
            CHECK.due("view " + g, Check.view(x, g, ""), -14);
            CHECK.due("turned " + g, x.turned(g, 0, 0), -14);
            CHECK.due("spread " + g, Check.spread(x, g, 2, 3), -14);
            CHECK.due("shaped " + g, Check.shaped(x, g, 6), -14);
            CHECK.due("copy from " + g, x.copy(g, 1), -14);
            CHECK.due("copy to " + g, x.copy(1, g), -14);
            CHECK.due("copy from and to " + g, x.copy(g, g), -14);
            CHECK.due("shares " + g, x.shares(g, 1), -14);
            CHECK.due("shares with " + g, x.shares(1, g), -14);
            CHECK.due("shares with itself " + g, x.shares(g, g), -14);
            CHECK.dueText("all stays", Check.all(x), before);
        }
        SliceViews x = few();
        for (int g = 1; g <= 2; g++) {
            CHECK.due("axes " + g, x.axes(g), g + 1);
            CHECK.due("shares " + g, x.shares(g, g), 1);
        }
    }
}
