/** Promises 6 to 13: grids that are made, their cells, and what is told of them. */
public final class GridTest {
    private static final Check CHECK = new Check();

    public static void main(String[] args) {
        rowOrder();
        roomForCells();
        roomForGrids();
        putRefusals();
        getCodes();
        cellCodes();
        codeOfTheLatest();
        axesAndSizes();
        CHECK.end();
    }

    private static void rowOrder() {
        SliceViews x = new SliceViews();
        CHECK.due("grid 2 3 2", Check.grid(x, 2, 3, 2), 1);
        for (int n = 0; n < 12; n++) {
            CHECK.due("at first 0", x.cell(1, n), 0);
            CHECK.due("put", Check.put(x, 1, 50 + n, n / 6, n / 2 % 3, n % 2), 0);
        }
        CHECK.dueText("row order", Check.shown(x, 1), "(2,3,2) 50 51 52 53 54 55 56 57 58 59 60 61");
        CHECK.due("get 1 2 0", Check.get(x, 1, 1, 2, 0), 60);
        CHECK.due("put a long", Check.put(x, 1, Long.MIN_VALUE, 1, 2, 1), 0);
        CHECK.due("get the long", Check.get(x, 1, 1, 2, 1), Long.MIN_VALUE);
        CHECK.due("a second grid", Check.grid(x, 2, 3, 2), 2);
        CHECK.due("has its own cells", x.cell(2, 11), 0);
        CHECK.due("no axes, one cell", Check.grid(x), 3);
        CHECK.due("put there", x.put(3, -6), 0);
        CHECK.due("get there", x.get(3), -6);
    }

    private static void roomForCells() {
        SliceViews x = new SliceViews();
        CHECK.due("101000 cells", Check.grid(x, 1010, 100), -12);
        CHECK.due("4 times 4096", Check.grid(x, 4096, 4096, 4096, 4096), -12);
        CHECK.due("a product that is 0 in an int", Check.grid(x, 4096, 4096, 256), -12);
        CHECK.due("99999", Check.grid(x, 369, 271), 1);
        CHECK.due("the last one's 2", Check.grid(x, 2), -12);
        CHECK.due("none are always room", Check.grid(x, 4096, 0, 4096, 4096), 2);
        CHECK.due("the last one", Check.grid(x), 3);
        CHECK.due("one more", Check.grid(x), -12);
        CHECK.due("none are still room", Check.grid(x, 0), 4);
        CHECK.due("shaped of none", Check.shaped(x, 2, 3, 0), 5);
        CHECK.due("shaped of one", Check.shaped(x, 3, 1), -12);
        CHECK.due("a view needs no cells", Check.view(x, 1, ""), 6);
        CHECK.due("the last cell", x.cell(1, 99998), 0);
        CHECK.due("its code", x.code(), 0);
        SliceViews y = new SliceViews();
        CHECK.due("100000", Check.grid(y, 1000, 100), 1);
        CHECK.due("no cell left", Check.grid(y, 1), -12);
        CHECK.due("put at the last", Check.put(y, 1, 3, 999, 99), 0);
        CHECK.due("the last", y.cell(1, 99999), 3);
    }

    private static void roomForGrids() {
        SliceViews x = new SliceViews();
        for (int n = 1; n <= 398; n++) {
            CHECK.due("grid", x.grid(), n);
        }
        CHECK.due("a view is number 399", x.view(1), 399);
        CHECK.due("a spread view is number 400", x.spread(1), 400);
        CHECK.due("grid 401", x.grid(), -12);
        CHECK.due("view 401", x.view(1), -12);
        CHECK.due("place of a view without room", x.place(), -1);
        CHECK.due("a fault comes before the room", Check.view(x, 1, "x"), -20);
        CHECK.due("spread 401", x.spread(1), -12);
        Check.tellSizes(x, 5);
        CHECK.due("a spread of no such grid", x.spread(401), -14);
        CHECK.due("no such axis comes before the room", x.turned(1, 0, 0), -2);
        CHECK.due("shaped 401", x.shaped(1), -12);
        CHECK.due("shaped to none: -3 comes before the room", Check.shaped(x, 1, 0), -3);
        CHECK.due("grid 400 is there", x.cells(400), 1);
        CHECK.due("grid 401 is not", x.cells(401), -14);
        SliceViews y = new SliceViews();
        Check.grid(y, 2, 3);
        for (int n = 2; n <= 400; n++) {
            CHECK.due("turned", y.turned(n - 1, 0, 1), n);
        }
        CHECK.due("turned 401", y.turned(1, 0, 1), -12);
        CHECK.due("no such axis comes before the room", y.turned(1, 0, 2), -2);
        CHECK.due("turned 399 times", y.size(400, 0), 3);
    }

    private static void putRefusals() {
        SliceViews x = new SliceViews();
        Check.grid(x, 2, 3);
        CHECK.due("put(0)", Check.put(x, 0, 1, 0, 0), -14);
        CHECK.due("put(2)", Check.put(x, 2, 1, 0, 0), -14);
        CHECK.due("put(-1)", Check.put(x, -1, 1, 0, 0), -14);
        CHECK.due("put(minimum)", Check.put(x, Integer.MIN_VALUE, 1, 0, 0), -14);
        CHECK.due("no index", Check.put(x, 1, 1), -1);
        CHECK.due("one index", Check.put(x, 1, 1, 0), -1);
        CHECK.due("three indexes", Check.put(x, 1, 1, 0, 0, 0), -1);
        CHECK.due("-1 comes before -2", Check.put(x, 1, 1, 9), -1);
        CHECK.due("index 2 of 2", Check.put(x, 1, 1, 2, 0), -2);
        CHECK.due("index 3 of 3", Check.put(x, 1, 1, 0, 3), -2);
        CHECK.due("index -1", Check.put(x, 1, 1, 1, -1), -2);
        CHECK.due("index minimum", Check.put(x, 1, 1, Integer.MIN_VALUE, 0), -2);
        CHECK.due("index maximum", Check.put(x, 1, 1, 0, Integer.MAX_VALUE), -2);
        CHECK.dueText("none was written", Check.shown(x, 1), "(2,3) 0 0 0 0 0 0");
        Check.tellSizes(x, 2, 3);
        CHECK.due("spread", x.spread(1), 2);
        CHECK.due("put(spread)", Check.put(x, 2, 1, 0, 0), -5);
        CHECK.due("-1 comes before -5", Check.put(x, 2, 1, 0), -1);
        CHECK.due("-5 comes before -2", Check.put(x, 2, 1, 7, 7), -5);
        CHECK.due("no cells", Check.grid(x, 0), 3);
        CHECK.due("put where no cell is", Check.put(x, 3, 1, 0), -2);
    }

    private static void getCodes() {
        SliceViews x = new SliceViews();
        Check.grid(x, 2, 3);
        Check.put(x, 1, 8, 1, 2);
        readDue(x, "get", Check.get(x, 1, 1, 2), 8, 0);
        readDue(x, "get(0)", Check.get(x, 0, 1, 2), 0, 14);
        readDue(x, "get(2)", Check.get(x, 2, 1, 2), 0, 14);
        readDue(x, "one index", Check.get(x, 1, 1), 0, 1);
        readDue(x, "three indexes", Check.get(x, 1, 1, 2, 0), 0, 1);
        readDue(x, "1 comes before 2", Check.get(x, 1, 7), 0, 1);
        readDue(x, "index 2 of 2", Check.get(x, 1, 2, 2), 0, 2);
        readDue(x, "index -1", Check.get(x, 1, 1, -1), 0, 2);
        readDue(x, "index 5 of 3 is no other row's", Check.get(x, 1, 0, 5), 0, 2);
        readDue(x, "get again", Check.get(x, 1, 1, 2), 8, 0);
        Check.tellSizes(x, 2, 2, 3);
        x.spread(1);
        readDue(x, "get of a spread view", Check.get(x, 2, 1, 1, 2), 8, 0);
    }

    private static void cellCodes() {
        SliceViews x = new SliceViews();
        Check.counted(x, 3);
        readDue(x, "cell 0", x.cell(1, 0), 100, 0);
        readDue(x, "cell 2", x.cell(1, 2), 102, 0);
        readDue(x, "cell 3", x.cell(1, 3), 0, 2);
        readDue(x, "cell -1", x.cell(1, -1), 0, 2);
        readDue(x, "cell minimum", x.cell(1, Integer.MIN_VALUE), 0, 2);
        readDue(x, "cell maximum", x.cell(1, Integer.MAX_VALUE), 0, 2);
        readDue(x, "cell of 2", x.cell(2, 0), 0, 14);
        readDue(x, "cell of 0", x.cell(0, 9), 0, 14);
        Check.grid(x, 3, 0);
        readDue(x, "cell 0 of none", x.cell(2, 0), 0, 2);
    }

    private static void codeOfTheLatest() {
        SliceViews x = new SliceViews();
        Check.grid(x, 1);
        x.cell(1, 5);
        Check.put(x, 1, 1, 0);
        x.axes(7);
        x.turned(7, 0, 0);
        Check.view(x, 1, "");
        CHECK.due("other calls leave the code", x.code(), 2);
        CHECK.due("code leaves the code", x.code(), 2);
        x.get(3);
        CHECK.due("get's", x.code(), 14);
        x.cell(1, 0);
        CHECK.due("cell's", x.code(), 0);
        x.get(1);
        CHECK.due("get's", x.code(), 1);
        Check.get(x, 1, 0);
        CHECK.due("get's", x.code(), 0);
    }

    private static void axesAndSizes() {
        SliceViews x = new SliceViews();
        Check.grid(x, 3, 4096, 2, 1);
        Check.grid(x);
        Check.grid(x, 5, 0);
        CHECK.due("axes(1)", x.axes(1), 4);
        CHECK.due("axes(2)", x.axes(2), 0);
        CHECK.due("axes(3)", x.axes(3), 2);
        CHECK.due("axes(4)", x.axes(4), -14);
        CHECK.due("axes(0)", x.axes(0), -14);
        CHECK.due("axes(-5)", x.axes(-5), -14);
        CHECK.due("size(1, 0)", x.size(1, 0), 3);
        CHECK.due("size(1, 1)", x.size(1, 1), 4096);
        CHECK.due("size(1, 2)", x.size(1, 2), 2);
        CHECK.due("size(1, 3)", x.size(1, 3), 1);
        CHECK.due("size(1, 4)", x.size(1, 4), -2);
        CHECK.due("size(1, -1)", x.size(1, -1), -2);
        CHECK.due("size(2, 0)", x.size(2, 0), -2);
        CHECK.due("size(3, 1)", x.size(3, 1), 0);
        CHECK.due("size(4, 9)", x.size(4, 9), -14);
        CHECK.due("cells(1)", x.cells(1), 24576);
        CHECK.due("cells(2)", x.cells(2), 1);
        CHECK.due("cells(3)", x.cells(3), 0);
        CHECK.due("cells(4)", x.cells(4), -14);
        CHECK.due("cells(maximum)", x.cells(Integer.MAX_VALUE), -14);
    }

    private static void readDue(SliceViews x, String call, long got, long want, int code) {
        CHECK.due(call, got, want);
        CHECK.due("code() after " + call, x.code(), code);
    }
}
