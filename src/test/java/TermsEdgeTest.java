/**
 * The sentences under 'Terms' that name a boundary, in the document's order: the last value that is taken, the first
 * that is refused, and what later calls tell of the state behind them.
 */
public final class TermsEdgeTest {
    private static final Check CHECK = new Check();
    private static final String[] MAKERS = {"grid", "view", "turned", "spread", "shaped"};

    public static void main(String[] args) {
        numberedFromOne();
        refusedCallsUseNoNumber();
        for (String maker : MAKERS) {
            atMostFourHundred(maker);
        }
        noneToFourAxes();
        viewsHaveUpToFourAxes();
        sizesFrom0To4096();
        viewsOfTheLargestSize();
        rowOrderOfFourAxes();
        ownCellsAtFirst0();
        oneGridOf100000();
        togetherTo100000();
        shapedCellsAreMade();
        viewsMakeNoCells();
        writingShowsInBoth();
        copyShowsInBoth();
        noViewAbove100000();
        spreadCellsComeSeveralTimes();
        spreadIsNotWritten();
        viewsOfSpreadAreNotWritten();
        notSpreadIsWritten();
        CHECK.end();
    }

    /** A call that makes a grid or view of sizes 1, 1 out of grid 1, which has them too. */
    private static int make(SliceViews x, String maker) {
        switch (maker) {
            case "grid": return Check.grid(x, 1, 1);
            case "view": return Check.view(x, 1, ":, :");
            case "turned": return x.turned(1, 0, 1);
            case "spread": return Check.spread(x, 1, 1, 1);
            default: return Check.shaped(x, 1, 1, 1);
        }
    }

    // "GRIDS are numbered from 1"
    private static void numberedFromOne() {
        SliceViews x = new SliceViews();
        CHECK.due("no grid: cells(1)", x.cells(1), -14);
        int next = 1;
        CHECK.due("the first", Check.grid(x, 1, 1), next);
        for (String maker : MAKERS) {
            next++;
            CHECK.due("not yet " + next, x.cells(next), -14);
            CHECK.due(maker, make(x, maker), next);
            CHECK.due("now " + next, x.cells(next), 1);
        }
        CHECK.due("number 0", x.cells(0), -14);
        CHECK.due("number -1", x.cells(-1), -14);
    }

    private static void refusedCallsUseNoNumber() {
        SliceViews x = new SliceViews();
        CHECK.due("grid of too many cells", Check.grid(x, 4096, 4096), -12);
        CHECK.due("the first", Check.grid(x, 2, 2), 1);
        CHECK.due("view with a fault", Check.view(x, 1, "2"), -20);
        CHECK.due("view of no grid", Check.view(x, 2, "1"), -14);
        CHECK.due("turned at no axis", x.turned(1, 0, 2), -2);
        CHECK.due("spread to other sizes", Check.spread(x, 1, 2, 3), -3);
        CHECK.due("spread to too many cells", Check.spread(x, 1, 4096, 4096, 2, 2), -12);
        CHECK.due("shaped to other cells", Check.shaped(x, 1, 5), -3);
        CHECK.due("still one", x.cells(2), -14);
        CHECK.due("the second", Check.view(x, 1, "1"), 2);
    }

    // "at most 400 (views too)"
    private static void atMostFourHundred(String maker) {
        SliceViews x = new SliceViews();
        Check.grid(x, 1, 1);
        Check.put(x, 1, 7, 0, 0);
        for (int n = 2; n <= 399; n++) {
            CHECK.due("grid " + n, x.grid(), n);
        }
        CHECK.due(maker + " is number 400", make(x, maker), 400);
        CHECK.due("axes of 400", x.axes(400), 2);
        CHECK.due("cell of 400", x.cell(400, 0), maker.equals("grid") ? 0 : 7);
        CHECK.due(maker + " is not number 401", make(x, maker), -12);
        for (String other : MAKERS) {
            CHECK.due("400 by " + maker + ", not 401 by " + other, make(x, other), -12);
            CHECK.due(other + ": the sizes are used up", x.axis(1), 1);
            CHECK.due(other + ": the tray is used up", x.end(1), -1);
            x.grid();
        }
        CHECK.due("no 401", x.cells(401), -14);
        CHECK.due("400 stays", x.cells(400), 1);
        CHECK.due("1 stays", x.cell(1, 0), 7);
        CHECK.due("no grid to copy to", x.copy(1, 401), -14);
        CHECK.due("400 shares with 1", x.shares(400, 1), maker.equals("grid") || maker.equals("shaped") ? 0 : 1);
    }

    // "A grid has 0 .. 4 AXES"
    private static void noneToFourAxes() {
        SliceViews x = new SliceViews();
        int[] sizes = {2, 3, 1, 2};
        for (int count = 0; count <= 4; count++) {
            for (int a = 0; a < count; a++) {
                CHECK.due("axis", x.axis(sizes[a]), a + 1);
            }
            CHECK.due("grid of " + count, x.grid(), count + 1);
            CHECK.due("axes", x.axes(count + 1), count);
            CHECK.due("the last axis", x.size(count + 1, count - 1), count == 0 ? -2 : sizes[Math.max(0, count - 1)]);
            CHECK.due("no axis behind it", x.size(count + 1, count), -2);
        }
        CHECK.due("cells of no axes", x.cells(1), 1);
        CHECK.due("cells of four", x.cells(5), 12);
        Check.tellSizes(x, 2, 3, 1, 2);
        CHECK.due("a fifth size", x.axis(5), -1);
        CHECK.due("grid of the four", x.grid(), 6);
        CHECK.dueText("they stay as they were", Check.shown(x, 6), "(2,3,1,2) 0 0 0 0 0 0 0 0 0 0 0 0");
    }

    private static void viewsHaveUpToFourAxes() {
        SliceViews x = new SliceViews();
        Check.counted(x, 2);
        CHECK.due("view of 0 axes", Check.view(x, 1, "1"), 2);
        CHECK.due("axes", x.axes(2), 0);
        CHECK.due("view of 4", Check.view(x, 1, "*,:,*,*"), 3);
        CHECK.dueText("sizes", Check.shown(x, 3), "(1,2,1,1) 100 101");
        CHECK.due("view of 5", Check.view(x, 1, "*,:,*,*,*"), -20);
        CHECK.due("its place", x.place(), 9);
        CHECK.due("spread to 0 axes", Check.spread(x, 2), 4);
        CHECK.dueText("sizes", Check.shown(x, 4), "() 101");
        CHECK.due("spread to 4", Check.spread(x, 1, 1, 2, 1, 2), 5);
        CHECK.dueText("sizes", Check.shown(x, 5), "(1,2,1,2) 100 101 100 101");
        CHECK.due("shaped to 0 axes", Check.shaped(x, 2), 6);
        CHECK.dueText("sizes", Check.shown(x, 6), "() 101");
        CHECK.due("shaped to 4", Check.shaped(x, 1, 1, 1, 2, 1), 7);
        CHECK.dueText("sizes", Check.shown(x, 7), "(1,1,2,1) 100 101");
    }

    // "each with a SIZE 0 .. 4096"
    private static void sizesFrom0To4096() {
        int[] taken = {0, 1, 4095, 4096};
        int[] refused = {-1, 4097, -4096, Integer.MIN_VALUE, Integer.MAX_VALUE, 65536, 65537};
        for (int size : taken) {
            SliceViews x = new SliceViews();
            CHECK.due("axis " + size, x.axis(size), 1);
            CHECK.due("grid " + size, x.grid(), 1);
            CHECK.due("size", x.size(1, 0), size);
            CHECK.due("cells", x.cells(1), size);
            CHECK.due("put at the last", Check.put(x, 1, 5, size - 1), size == 0 ? -2 : 0);
            CHECK.due("put behind it", Check.put(x, 1, 6, size), -2);
            CHECK.due("the last", x.cell(1, size - 1), size == 0 ? 0 : 5);
            CHECK.due("code", x.code(), size == 0 ? 2 : 0);
        }
        for (int size : refused) {
            SliceViews x = new SliceViews();
            x.axis(3);
            CHECK.due("axis " + size, x.axis(size), -1);
            CHECK.due("the next is the second", x.axis(2), 2);
            CHECK.due("grid", x.grid(), 1);
            CHECK.dueText("without " + size, Check.shown(x, 1), "(3,2) 0 0 0 0 0 0");
        }
    }

    private static void viewsOfTheLargestSize() {
        SliceViews x = new SliceViews();
        Check.grid(x, 4096, 24);
        Check.put(x, 1, 8, 4095, 23);
        CHECK.due("98304 cells", x.cells(1), 98304);
        CHECK.due("the whole", Check.view(x, 1, "0:4096"), 2);
        CHECK.due("its size", x.size(2, 0), 4096);
        CHECK.due("beyond the whole", Check.view(x, 1, "0:4097"), 3);
        CHECK.due("its size", x.size(3, 0), 4096);
        CHECK.due("the last", Check.view(x, 1, "4095,-1"), 4);
        CHECK.due("its cell", x.get(4), 8);
        CHECK.due("the last, from the end", Check.view(x, 1, "-4096::4095,23"), 5);
        CHECK.dueText("its cells", Check.shown(x, 5), "(2) 0 8");
        CHECK.due("place 4096", Check.view(x, 1, "4096"), -20);
        CHECK.due("place -4097", Check.view(x, 1, "-4097"), -20);
        CHECK.due("spread to 4096", Check.spread(x, 4, 4096), 6);
        CHECK.due("its last", x.cell(6, 4095), 8);
        CHECK.due("behind its last", x.cell(6, 4096), 0);
        CHECK.due("code", x.code(), 2);
    }

    // "CELLS stand in ROW ORDER (the last axis the fastest)"
    private static void rowOrderOfFourAxes() {
        SliceViews x = new SliceViews();
        Check.grid(x, 2, 1, 3, 2);
        int n = 0;
        for (int a = 0; a < 2; a++) {
            for (int c = 0; c < 3; c++) {
                for (int d = 0; d < 2; d++) {
                    CHECK.due("put", Check.put(x, 1, 40 + n, a, 0, c, d), 0);
                    CHECK.due("cell " + n, x.cell(1, n), 40 + n);
                    n++;
                }
            }
        }
        CHECK.due("cell 12 of 12", x.cell(1, 12), 0);
        CHECK.due("code", x.code(), 2);
    }

    // "A grid that is made has its own cells, at first 0"
    private static void ownCellsAtFirst0() {
        SliceViews x = new SliceViews();
        Check.counted(x, 2);
        CHECK.due("another grid", Check.grid(x, 2), 2);
        CHECK.dueText("is 0", Check.shown(x, 2), "(2) 0 0");
        CHECK.due("put", Check.put(x, 2, 9, 1), 0);
        CHECK.dueText("each has its own", Check.all(x), "(2) 100 101; (2) 0 9");
        CHECK.due("shares none", x.shares(1, 2), 0);
        SliceViews y = new SliceViews();
        CHECK.due("another object's grid", Check.grid(y, 2), 1);
        CHECK.dueText("is 0", Check.shown(y, 1), "(2) 0 0");
    }

    // "all that are made together may have 100000"; 100001 is no product of sizes up to 4096, 100002 is the next
    private static void oneGridOf100000() {
        int[][] taken = {{1000, 100}, {25, 4000, 1}, {10, 10, 10, 100}, {2083, 48}, {4096, 24}};
        // The product of the fourth is 2 to the 32nd, of the fifth that and 4: in an int they would be 0 and 4.
        int[][] refused = {{42, 2381}, {4096, 25}, {4096, 4096}, {4096, 4096, 256}, {1321, 2501, 1300},
            {4096, 4096, 4096, 4096}};
        for (int[] sizes : taken) {
            SliceViews x = new SliceViews();
            CHECK.due("up to 100000", Check.grid(x, sizes), 1);
            CHECK.due("its last cell", x.cell(1, x.cells(1) - 1), 0);
            CHECK.due("is there", x.code(), 0);
        }
        for (int[] sizes : refused) {
            SliceViews x = new SliceViews();
            CHECK.due("above 100000", Check.grid(x, sizes), -12);
            CHECK.due("no grid", x.cells(1), -14);
            CHECK.due("the sizes are used up", x.axis(1), 1);
            CHECK.due("no cell is taken", Check.grid(x, 100, 1000), 1);
            CHECK.due("all cells", x.cells(1), 100000);
        }
    }

    private static void togetherTo100000() {
        SliceViews x = new SliceViews();
        CHECK.due("50000", Check.grid(x, 500, 100), 1);
        CHECK.due("50001 more", Check.grid(x, 21, 2381), -12);
        CHECK.due("49995 more", Check.grid(x, 3333, 3, 5), 2);
        CHECK.due("5 more", Check.grid(x, 5), 3);
        CHECK.due("one more than are left", Check.grid(x, 1), -12);
        CHECK.due("none are left for no axes", Check.grid(x), -12);
        CHECK.due("none need no room", Check.grid(x, 0), 4);
        CHECK.due("none of large sizes need no room", Check.grid(x, 4096, 4096, 0, 4096), 5);
        CHECK.due("cells", x.cells(5), 0);
        CHECK.due("size", x.size(5, 3), 4096);
        CHECK.due("the first stays", x.cells(1), 50000);
    }

    private static void shapedCellsAreMade() {
        SliceViews x = new SliceViews();
        Check.grid(x, 100, 500);
        CHECK.due("shaped up to 100000", Check.shaped(x, 1, 500, 100), 2);
        CHECK.due("no cell is left", Check.grid(x), -12);
        CHECK.due("nor by shaped", Check.shaped(x, 1, 500, 100), -12);
        SliceViews y = new SliceViews();
        Check.grid(y, 21, 2381);
        CHECK.due("50001 and as many again", Check.shaped(y, 1, 2381, 21), -12);
        CHECK.due("the refused ones took none", Check.grid(y, 1000, 49), 2);
        CHECK.due("the last 999", Check.grid(y, 999), 3);
        CHECK.due("no more", Check.grid(y), -12);
    }

    private static void viewsMakeNoCells() {
        SliceViews x = new SliceViews();
        Check.grid(x, 100, 1000);
        CHECK.due("view", Check.view(x, 1, ":"), 2);
        CHECK.due("turned", x.turned(1, 0, 1), 3);
        CHECK.due("spread", Check.spread(x, 1, 100, 1000), 4);
        CHECK.due("view of a view", Check.view(x, 2, "::-1"), 5);
        for (int g = 2; g <= 5; g++) {
            CHECK.due("cells of " + g, x.cells(g), 100000);
        }
        SliceViews y = new SliceViews();
        Check.grid(y, 99, 1000);
        Check.view(y, 1, ":");
        Check.spread(y, 1, 99, 1000);
        CHECK.due("the rest is for made ones", Check.grid(y, 1000), 4);
        CHECK.due("and no more", Check.grid(y), -12);
    }

    // "A VIEW has cells of another grid: writing through either shows in both"
    private static void writingShowsInBoth() {
        SliceViews x = new SliceViews();
        Check.grid(x, 2, 2);
        Check.view(x, 1, "1");
        x.turned(1, 0, 1);
        Check.spread(x, 1, 1, 2, 2);
        Check.view(x, 2, "::-1");
        CHECK.due("put into the grid", Check.put(x, 1, 5, 1, 0), 0);
        CHECK.dueText("shows in all", Check.all(x), "(2,2) 0 0 5 0; (2) 5 0; (2,2) 0 5 0 0; (1,2,2) 0 0 5 0; (2) 0 5");
        CHECK.due("put into the view", Check.put(x, 2, 6, 1), 0);
        CHECK.dueText("shows in all", Check.all(x), "(2,2) 0 0 5 6; (2) 5 6; (2,2) 0 5 0 6; (1,2,2) 0 0 5 6; (2) 6 5");
        CHECK.due("put into the turned", Check.put(x, 3, 7, 1, 0), 0);
        CHECK.dueText("shows in all", Check.all(x), "(2,2) 0 7 5 6; (2) 5 6; (2,2) 0 5 7 6; (1,2,2) 0 7 5 6; (2) 6 5");
        CHECK.due("put into the view's view", Check.put(x, 5, 8, 1), 0);
        CHECK.dueText("shows in all", Check.all(x), "(2,2) 0 7 8 6; (2) 8 6; (2,2) 0 8 7 6; (1,2,2) 0 7 8 6; (2) 6 8");
    }

    private static void copyShowsInBoth() {
        SliceViews x = new SliceViews();
        Check.counted(x, 3);
        Check.view(x, 1, "1:");
        Check.grid(x, 2);
        CHECK.due("copy into the view", x.copy(3, 2), 0);
        CHECK.dueText("shows in the grid", Check.all(x), "(3) 100 0 0; (2) 0 0; (2) 0 0");
        Check.put(x, 3, 4, 0);
        CHECK.dueText("a copy is no view", Check.all(x), "(3) 100 0 0; (2) 0 0; (2) 4 0");
    }

    // "none has more than 100000"
    private static void noViewAbove100000() {
        int[][] taken = {{100, 1000}, {10, 10, 10, 100}, {4096, 24}, {4096, 0, 4096, 4096}, {4096, 4096, 4096, 0}};
        int[][] refused = {{42, 2381}, {4096, 25}, {4096, 4096}, {4096, 4096, 256}, {1321, 2501, 1300},
            {4096, 4096, 4096, 4096}};
        SliceViews x = new SliceViews();
        x.grid();
        x.put(1, 9);
        int next = 2;
        for (int[] sizes : taken) {
            CHECK.due("spread up to 100000", Check.spread(x, 1, sizes), next);
            boolean none = x.cells(next) == 0;
            CHECK.due("its last cell", x.cell(next, x.cells(next) - 1), none ? 0 : 9);
            CHECK.due("code", x.code(), none ? 2 : 0);
            next++;
        }
        CHECK.due("100000", x.cells(2), 100000);
        for (int[] sizes : refused) {
            CHECK.due("spread above 100000", Check.spread(x, 1, sizes), -12);
            CHECK.due("no view", x.cells(next), -14);
            CHECK.due("the sizes are used up", x.axis(1), 1);
            CHECK.due("spread to one", x.spread(1), next);
            next++;
        }
        CHECK.due("a spread view's spread view above 100000", Check.spread(x, 2, 2, 100, 1000), -12);
        CHECK.due("and up to it", Check.spread(x, 2, 1, 100, 1000), next);
    }

    // "A SPREAD view's cells come several times"
    private static void spreadCellsComeSeveralTimes() {
        SliceViews x = new SliceViews();
        Check.counted(x, 2);
        CHECK.due("spread", Check.spread(x, 1, 3, 2), 2);
        CHECK.dueText("three times", Check.shown(x, 2), "(3,2) 100 101 100 101 100 101");
        Check.put(x, 1, 5, 1);
        CHECK.dueText("a put shows each time", Check.shown(x, 2), "(3,2) 100 5 100 5 100 5");
    }

    // "it, and views of it, can't be written"
    private static void spreadIsNotWritten() {
        SliceViews x = new SliceViews();
        Check.counted(x, 2);
        Check.spread(x, 1, 2, 2);
        Check.grid(x, 2, 2);
        String before = Check.all(x);
        CHECK.due("put at the first", Check.put(x, 2, 1, 0, 0), -5);
        CHECK.due("the spot is used up", x.at(1), 1);
        CHECK.due("put at another number of indexes", x.put(2, 1), -1);
        CHECK.due("put at the last", Check.put(x, 2, 1, 1, 1), -5);
        CHECK.due("put behind the last", Check.put(x, 2, 1, 2, 2), -5);
        CHECK.due("copy to it", x.copy(3, 2), -5);
        CHECK.due("copy to it from itself", x.copy(2, 2), -5);
        CHECK.dueText("none is written", Check.all(x), before);
    }

    private static void viewsOfSpreadAreNotWritten() {
        SliceViews x = new SliceViews();
        Check.counted(x, 2);
        CHECK.due("spread", Check.spread(x, 1, 2, 2), 2);
        CHECK.due("a view of it", Check.view(x, 2, "0"), 3);
        CHECK.due("one cell of it", Check.view(x, 2, "0,0"), 4);
        CHECK.due("turned", x.turned(2, 0, 1), 5);
        CHECK.due("spread of it", Check.spread(x, 2, 1, 2, 2), 6);
        CHECK.due("a view of a view of it", Check.view(x, 3, "*,1"), 7);
        CHECK.due("turned of that", x.turned(7, 0, 0), 8);
        CHECK.due("none of it", Check.view(x, 3, "1:1"), 9);
        String before = Check.all(x);
        CHECK.due("put into a view", Check.put(x, 3, 1, 0), -5);
        CHECK.due("put into one cell", Check.put(x, 4, 1), -5);
        CHECK.due("put into a turned one", Check.put(x, 5, 1, 0, 0), -5);
        CHECK.due("put into a spread one", Check.put(x, 6, 1, 0, 0, 0), -5);
        CHECK.due("put into a view's view", Check.put(x, 7, 1, 0), -5);
        CHECK.due("put into its turned one", Check.put(x, 8, 1, 0), -5);
        CHECK.due("put into none of it", Check.put(x, 9, 1, 0), -5);
        CHECK.due("copy to a view", x.copy(1, 3), -5);
        CHECK.due("copy to a turned one", x.copy(2, 5), -5);
        CHECK.due("copy to none of it", x.copy(9, 9), -5);
        CHECK.dueText("none is written", Check.all(x), before);
    }

    private static void notSpreadIsWritten() {
        SliceViews x = new SliceViews();
        Check.counted(x, 2);
        Check.spread(x, 1, 2, 2);
        CHECK.due("the grid itself", Check.put(x, 1, 5, 0), 0);
        CHECK.due("shaped of the spread view", Check.shaped(x, 2, 4), 3);
        CHECK.due("has its own cells", Check.put(x, 3, 6, 3), 0);
        CHECK.due("another view of the grid", Check.view(x, 1, "1:"), 4);
        CHECK.due("is written", Check.put(x, 4, 7, 0), 0);
        CHECK.dueText("all", Check.all(x), "(2) 5 7; (2,2) 5 7 5 7; (4) 5 101 5 6; (1) 7");
        Check.grid(x, 2, 2);
        CHECK.due("copy from the spread view", x.copy(2, 5), 0);
        CHECK.dueText("is written", Check.shown(x, 5), "(2,2) 5 7 5 7");
    }
}
