/** Promises 16 to 20: turned, spread and shaped grids, copies, and shared cells. */
public final class OtherViewsTest {
    private static final Check CHECK = new Check();

    public static void main(String[] args) {
        turned();
        spreadCells();
        spreadRefusals();
        spreadStaysUnwritten();
        shapedCells();
        shapedRefusals();
        copies();
        copyOfOverlap();
        copyRefusals();
        shares();
        sharesAcrossLattices();
        manyDearCalls();
        CHECK.end();
    }

    private static int counted(SliceViews x, int a, int b) {
        int g = Check.grid(x, a, b);
        for (int n = 0; n < a * b; n++) {
            Check.put(x, g, n, n / b, n % b);
        }
        return g;
    }

    private static void turned() {
        SliceViews x = new SliceViews();
        counted(x, 2, 3);
        CHECK.due("turned", x.turned(1, 0, 1), 2);
        CHECK.dueText("turned", Check.shown(x, 2), "(3,2) 0 3 1 4 2 5");
        CHECK.due("turned the other way", x.turned(1, 1, 0), 3);
        CHECK.dueText("is the same", Check.shown(x, 3), "(3,2) 0 3 1 4 2 5");
        CHECK.due("turned in itself", x.turned(1, 1, 1), 4);
        CHECK.dueText("is the whole", Check.shown(x, 4), "(2,3) 0 1 2 3 4 5");
        CHECK.due("put through a turned one", Check.put(x, 2, 9, 2, 0), 0);
        CHECK.due("shows in the grid", x.cell(1, 2), 9);
        CHECK.due("no such grid", x.turned(5, 0, 1), -14);
        CHECK.due("no such grid or axis", x.turned(0, 9, 9), -14);
        CHECK.due("axis 2", x.turned(1, 0, 2), -2);
        CHECK.due("axis 2 first", x.turned(1, 2, 0), -2);
        CHECK.due("axis -1", x.turned(1, -1, 0), -2);
        CHECK.due("axis -1 second", x.turned(1, 0, -1), -2);
        CHECK.due("axis 2 twice", x.turned(1, 2, 2), -2);
        Check.grid(x, 2, 3, 4, 5);
        CHECK.due("turned 0 3", x.turned(5, 0, 3), 6);
        CHECK.due("first", x.size(6, 0), 5);
        CHECK.due("second stays", x.size(6, 1), 3);
        CHECK.due("third stays", x.size(6, 2), 4);
        CHECK.due("last", x.size(6, 3), 2);
    }

    private static void spreadCells() {
        SliceViews x = new SliceViews();
        Check.counted(x, 3);
        CHECK.due("spread to 2 3", Check.spread(x, 1, 2, 3), 2);
        CHECK.dueText("spread to 2 3", Check.shown(x, 2), "(2,3) 100 101 102 100 101 102");
        CHECK.due("a column", Check.view(x, 1, ":,*"), 3);
        CHECK.due("spread the column", Check.spread(x, 3, 3, 2), 4);
        CHECK.dueText("spread the column", Check.shown(x, 4), "(3,2) 100 100 101 101 102 102");
        CHECK.due("spread one cell", Check.view(x, 1, "1"), 5);
        CHECK.due("to three axes", Check.spread(x, 5, 2, 1, 2), 6);
        CHECK.dueText("to three axes", Check.shown(x, 6), "(2,1,2) 101 101 101 101");
        CHECK.due("spread to no more", Check.spread(x, 1, 3), 7);
        CHECK.due("spread of a spread view", Check.spread(x, 2, 2, 2, 3), 8);
        CHECK.due("cells", x.cells(8), 12);
        Check.put(x, 1, 55, 2);
        CHECK.dueText("a put into the grid shows", Check.shown(x, 2), "(2,3) 100 101 55 100 101 55");
        CHECK.due("and at the last", Check.get(x, 8, 1, 1, 2), 55);
        CHECK.due("1 to 0", Check.spread(x, 3, 3, 0), 9);
        CHECK.due("no cells", x.cells(9), 0);
        Check.grid(x, 0);
        CHECK.due("0 to 2 0", Check.spread(x, 10, 2, 0), 11);
        CHECK.due("no axes to none", Check.spread(x, 5), 12);
        CHECK.due("its cell", x.get(12), 101);
    }

    private static void spreadRefusals() {
        SliceViews x = new SliceViews();
        Check.grid(x, 2, 3);
        CHECK.due("no such grid", Check.spread(x, 2, 2, 3), -14);
        CHECK.due("other last", Check.spread(x, 1, 2, 4), -3);
        CHECK.due("other first", Check.spread(x, 1, 3, 3), -3);
        CHECK.due("counted from the last, not from the first", Check.spread(x, 1, 2, 3, 4), -3);
        CHECK.due("counted from the last", Check.spread(x, 1, 4, 2, 3), 2);
        CHECK.due("to 1", Check.spread(x, 1, 2, 1), -3);
        CHECK.due("fewer axes", Check.spread(x, 1, 3), -3);
        CHECK.due("nothing collected", Check.spread(x, 1), -3);
        Check.grid(x, 0);
        CHECK.due("0 to 1", Check.spread(x, 3, 1), -3);
        Check.grid(x, 1, 1);
        CHECK.due("100000 cells", Check.spread(x, 4, 100, 1000), 5);
        CHECK.due("cells", x.cells(5), 100000);
        CHECK.due("100100 cells", Check.spread(x, 4, 1001, 100), -12);
        CHECK.due("a product of 0 in an int", Check.spread(x, 4, 4096, 4096, 256), -12);
        CHECK.due("-3 comes before -12", Check.spread(x, 1, 4096, 4096), -3);
        CHECK.due("fewer axes, though the first is 1", Check.spread(x, 4, 1), -3);
        CHECK.due("spread cells are not made: there is room", Check.grid(x, 1000, 99), 6);
    }

    private static void spreadStaysUnwritten() {
        SliceViews x = new SliceViews();
        Check.counted(x, 3);
        Check.spread(x, 1, 3);
        CHECK.due("a spread view that repeats none", Check.put(x, 2, 1, 0), -5);
        Check.view(x, 2, "0:1");
        CHECK.due("a view of it", Check.put(x, 3, 1, 0), -5);
        x.turned(3, 0, 0);
        CHECK.due("turned of that", Check.put(x, 4, 1, 0), -5);
        CHECK.due("copy to it", x.copy(1, 2), -5);
        CHECK.due("cell stays", x.cell(1, 0), 100);
        Check.shaped(x, 2, 3);
        CHECK.due("a shaped grid of it is its own", Check.put(x, 5, 1, 0), 0);
        CHECK.due("cell stays", x.cell(1, 0), 100);
        CHECK.due("the grid itself is written", Check.put(x, 1, 1, 0), 0);
        CHECK.due("and it shows", x.cell(4, 0), 1);
    }

    private static void shapedCells() {
        SliceViews x = new SliceViews();
        counted(x, 2, 3);
        CHECK.due("shaped 3 2", Check.shaped(x, 1, 3, 2), 2);
        CHECK.dueText("shaped 3 2", Check.shown(x, 2), "(3,2) 0 1 2 3 4 5");
        x.turned(1, 0, 1);
        CHECK.due("shaped of the turned", Check.shaped(x, 3, 1, 6, 1), 4);
        CHECK.dueText("shaped of the turned", Check.shown(x, 4), "(1,6,1) 0 3 1 4 2 5");
        Check.view(x, 1, "1,::-2");
        CHECK.due("shaped of a view", Check.shaped(x, 5, 2), 6);
        CHECK.dueText("shaped of a view", Check.shown(x, 6), "(2) 5 3");
        Check.spread(x, 5, 2, 2);
        CHECK.due("shaped of a spread view", Check.shaped(x, 7, 4), 8);
        CHECK.dueText("shaped of a spread view", Check.shown(x, 8), "(4) 5 3 5 3");
        Check.put(x, 1, 44, 0, 0);
        CHECK.due("its cells are its own", x.cell(2, 0), 0);
        Check.put(x, 2, 45, 0, 0);
        CHECK.due("its cells are its own", x.cell(1, 0), 44);
        CHECK.due("shares none", x.shares(1, 2), 0);
        Check.view(x, 1, "0,0");
        CHECK.due("one cell, no sizes", Check.shaped(x, 9), 10);
        CHECK.due("axes", x.axes(10), 0);
        CHECK.due("cell", x.get(10), 44);
    }

    private static void shapedRefusals() {
        SliceViews x = new SliceViews();
        Check.grid(x, 2, 3);
        CHECK.due("no such grid", Check.shaped(x, 2, 6), -14);
        CHECK.due("5 cells", Check.shaped(x, 1, 5), -3);
        CHECK.due("0 cells", Check.shaped(x, 1, 6, 0), -3);
        CHECK.due("nothing collected", Check.shaped(x, 1), -3);
        CHECK.due("6 in an int", Check.shaped(x, 1, 4096, 4096, 4096, 4096), -3);
        Check.grid(x, 4096, 0);
        CHECK.due("0 of 0", Check.shaped(x, 2, 0), 3);
        CHECK.due("0 in an int", Check.shaped(x, 2, 4096, 4096, 256), -3);
        Check.grid(x, 333, 300);
        CHECK.due("no room for as many again", Check.shaped(x, 4, 300, 333), -12);
        CHECK.due("-3 comes before -12", Check.shaped(x, 4, 300, 334), -3);
        CHECK.due("what was refused took no room", Check.grid(x, 94), 5);
        CHECK.due("room is up", Check.shaped(x, 1, 6), -12);
    }

    private static void copies() {
        SliceViews x = new SliceViews();
        counted(x, 2, 3);
        Check.grid(x, 2, 3);
        CHECK.due("copy", x.copy(1, 2), 0);
        CHECK.dueText("copy", Check.shown(x, 2), "(2,3) 0 1 2 3 4 5");
        CHECK.due("shares none then", x.shares(1, 2), 0);
        Check.view(x, 2, "::-1,1:");
        Check.view(x, 1, ":,:2");
        CHECK.due("copy from view to view", x.copy(4, 3), 0);
        CHECK.dueText("copy from view to view", Check.shown(x, 2), "(2,3) 0 3 4 3 0 1");
        Check.counted(x, 3);
        CHECK.due("spread", Check.spread(x, 5, 2, 3), 6);
        CHECK.due("copy from a spread view", x.copy(6, 2), 0);
        CHECK.dueText("copy from a spread view", Check.shown(x, 2), "(2,3) 100 101 102 100 101 102");
        CHECK.due("copy to itself", x.copy(2, 2), 0);
        CHECK.dueText("copy to itself", Check.shown(x, 2), "(2,3) 100 101 102 100 101 102");
        Check.grid(x, 0, 3);
        CHECK.due("copy of none", x.copy(7, 7), 0);
    }

    private static void copyOfOverlap() {
        SliceViews x = new SliceViews();
        Check.counted(x, 5);
        Check.view(x, 1, ":4");
        Check.view(x, 1, "1:");
        CHECK.due("copy up", x.copy(2, 3), 0);
        CHECK.dueText("copy up", Check.shown(x, 1), "(5) 100 100 101 102 103");
        CHECK.due("copy down", x.copy(3, 2), 0);
        CHECK.dueText("copy down", Check.shown(x, 1), "(5) 100 101 102 103 103");
        Check.view(x, 1, "::-1");
        CHECK.due("copy turned about", x.copy(4, 1), 0);
        CHECK.dueText("copy turned about", Check.shown(x, 1), "(5) 103 103 102 101 100");
        counted(x, 2, 2);
        x.turned(5, 0, 1);
        CHECK.due("copy exchanged", x.copy(6, 5), 0);
        CHECK.dueText("copy exchanged", Check.shown(x, 5), "(2,2) 0 2 1 3");
        Check.view(x, 5, "1");
        Check.spread(x, 7, 2, 2);
        CHECK.due("copy from a spread view of itself", x.copy(8, 5), 0);
        CHECK.dueText("copy from a spread view of itself", Check.shown(x, 5), "(2,2) 1 3 1 3");
    }

    private static void copyRefusals() {
        SliceViews x = new SliceViews();
        Check.grid(x, 2, 3);
        Check.grid(x, 3, 2);
        CHECK.due("no such g", x.copy(3, 1), -14);
        CHECK.due("no such h", x.copy(1, 3), -14);
        CHECK.due("neither", x.copy(0, -1), -14);
        CHECK.due("other sizes", x.copy(1, 2), -3);
        Check.grid(x, 6);
        CHECK.due("other axes", x.copy(1, 3), -3);
        Check.grid(x, 2, 3, 1);
        CHECK.due("one more axis", x.copy(1, 4), -3);
        CHECK.due("one less axis", x.copy(4, 1), -3);
        Check.grid(x, 1, 3);
        CHECK.due("sizes are not spread", x.copy(5, 1), -3);
        Check.spread(x, 3, 2, 6);
        CHECK.due("-5 comes before -3", x.copy(1, 6), -5);
        CHECK.due("-14 comes before -5", x.copy(9, 6), -14);
        CHECK.due("from a spread view of other sizes", x.copy(6, 1), -3);
        Check.grid(x, 0, 2);
        Check.grid(x, 2, 0);
        CHECK.due("other sizes of none", x.copy(7, 8), -3);
    }

    private static void shares() {
        SliceViews x = new SliceViews();
        Check.counted(x, 6);
        Check.counted(x, 6);
        CHECK.due("itself", x.shares(1, 1), 1);
        CHECK.due("another with the same numbers", x.shares(1, 2), 0);
        Check.view(x, 1, ":3");
        Check.view(x, 1, "3:");
        Check.view(x, 1, "2");
        CHECK.due("halves", x.shares(3, 4), 0);
        CHECK.due("halves", x.shares(4, 3), 0);
        CHECK.due("half and whole", x.shares(3, 1), 1);
        CHECK.due("whole and half", x.shares(1, 4), 1);
        CHECK.due("one cell and its half", x.shares(5, 3), 1);
        CHECK.due("the first cell", Check.view(x, 1, "0"), 6);
        CHECK.due("the first cell and its half", x.shares(6, 3), 1);
        CHECK.due("the half and its first cell", x.shares(3, 6), 1);
        CHECK.due("one cell and the other half", x.shares(5, 4), 0);
        CHECK.due("another grid's", x.shares(5, 2), 0);
        Check.spread(x, 5, 7, 7);
        CHECK.due("spread of the cell and its half", x.shares(7, 3), 1);
        CHECK.due("its half and the spread", x.shares(3, 7), 1);
        CHECK.due("spread of the cell and the other half", x.shares(7, 4), 0);
        Check.view(x, 1, "3:3");
        CHECK.due("no cell and the whole", x.shares(8, 1), 0);
        CHECK.due("no cell and itself", x.shares(8, 8), 0);
        CHECK.due("no such g", x.shares(9, 1), -14);
        CHECK.due("no such h", x.shares(1, 0), -14);
        CHECK.due("neither", x.shares(-3, 401), -14);
        x.copy(3, 4);
        CHECK.due("a copy shares none", x.shares(3, 4), 0);
        for (int i = 0; i < 6; i++) {
            Check.put(x, 1, 1, i);
        }
        x.copy(1, 1);
        CHECK.due("what a copy read does not count", x.shares(3, 4), 0);
    }

    private static void sharesAcrossLattices() {
        SliceViews x = new SliceViews();
        Check.grid(x, 30, 30);
        Check.view(x, 1, "::2");
        Check.view(x, 1, "1::2");
        Check.view(x, 1, ":,::3");
        Check.view(x, 1, "29::-3,1::3");
        CHECK.due("even and odd rows", x.shares(2, 3), 0);
        CHECK.due("even rows and third columns", x.shares(2, 4), 1);
        CHECK.due("third columns and others", x.shares(4, 5), 0);
        CHECK.due("even rows and every third", x.shares(2, 5), 1);
        x.turned(4, 0, 1);
        CHECK.due("turned third columns and others", x.shares(6, 5), 0);
        CHECK.due("turned third columns and odd rows", x.shares(3, 6), 1);
    }

    private static void manyDearCalls() {
        SliceViews x = new SliceViews();
        Check.grid(x, 250, 400);
        Check.put(x, 1, 6, 0, 399);
        Check.view(x, 1, "::-1,::-1");
        for (int n = 0; n < 250; n++) {
            CHECK.due("copy", x.copy(2, 1), 0);
            CHECK.due("shares", x.shares(1, 2), 1);
        }
        CHECK.due("there and back, an even number of times", x.cell(1, 399), 6);
    }
}
