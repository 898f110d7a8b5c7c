/** Promises 1 to 5: a new object, the tray, and what axis() and at() collect. */
public final class CollectTest {
    private static final Check CHECK = new Check();

    public static void main(String[] args) {
        newObject();
        feedCounts();
        feedOrder();
        endCuts();
        axisEdges();
        atEdges();
        usedUpAlsoIfRefused();
        notUsedUpByOthers();
        CHECK.end();
    }

    private static void newObject() {
        SliceViews x = new SliceViews();
        CHECK.due("new: code()", x.code(), 0);
        CHECK.due("new: place()", x.place(), -1);
        CHECK.due("new: axes(1)", x.axes(1), -14);
        CHECK.due("new: cells(0)", x.cells(0), -14);
        CHECK.due("new: end(0)", x.end(0), 0);
        CHECK.due("new: end(1)", x.end(1), -1);
        CHECK.due("new: grid()", x.grid(), 1);
        CHECK.due("new: axes of a grid of nothing collected", x.axes(1), 0);
        CHECK.due("new: put at nothing collected", x.put(1, 4), 0);
        CHECK.due("new: axis", x.axis(1), 1);
        CHECK.due("new: at", x.at(1), 1);
        SliceViews y = new SliceViews();
        CHECK.due("a second object has no grids", y.cells(1), -14);
        CHECK.due("a second object has no sizes", y.axis(1), 1);
    }

    private static void feedCounts() {
        SliceViews x = new SliceViews();
        CHECK.due("feed first", x.feed(0, 0, 0, 0, 0), 20);
        CHECK.due("feed second", x.feed(-1, -1, -1, -1, -1), 40);
        CHECK.due("end 39", x.end(39), 39);
        CHECK.due("feed behind the end", x.feed(0, 0, 0, 0, 0), 59);
    }

    private static void feedOrder() {
        SliceViews x = new SliceViews();
        Check.counted(x, 9);
        // "    1    :     8 : 3": each of the five ints matters.
        CHECK.due("feed a text over five ints", x.feed(0x20202020, 0x31202020, 0x203A2020, 0x20202038, 0x203A2033), 20);
        CHECK.due("view", x.view(1), 2);
        CHECK.dueText("1:8:3", Check.shown(x, 2), "(3) 101 104 107");
        CHECK.due("feed a byte above 127", x.feed(0x30FF0000, 0, 0, 0, 0), 20);
        CHECK.due("end", x.end(2), 2);
        CHECK.due("byte 255 is no end of the text", x.view(1), -20);
        CHECK.due("its place", x.place(), 1);
    }

    private static void endCuts() {
        SliceViews x = new SliceViews();
        Check.counted(x, 9);
        x.feed(0x35363738, 0, 0, 0, 0);
        CHECK.due("end(-1)", x.end(-1), -1);
        CHECK.due("end(21)", x.end(21), -1);
        CHECK.due("end(minimum)", x.end(Integer.MIN_VALUE), -1);
        CHECK.due("end(20): all stayed", x.end(20), 20);
        CHECK.due("end(1)", x.end(1), 1);
        CHECK.due("end(2) after end(1)", x.end(2), -1);
        CHECK.due("view of the first byte alone", x.view(1), 2);
        CHECK.due("5", x.cell(2, 0), 105);
        CHECK.due("view has used up the tray", x.end(1), -1);
    }

    private static void axisEdges() {
        SliceViews x = new SliceViews();
        CHECK.due("axis(-1)", x.axis(-1), -1);
        CHECK.due("axis(4097)", x.axis(4097), -1);
        CHECK.due("axis(minimum)", x.axis(Integer.MIN_VALUE), -1);
        CHECK.due("axis(0)", x.axis(0), 1);
        CHECK.due("axis(4096)", x.axis(4096), 2);
        CHECK.due("axis(7)", x.axis(7), 3);
        CHECK.due("axis(8)", x.axis(8), 4);
        CHECK.due("a fifth axis", x.axis(9), -1);
        CHECK.due("grid", x.grid(), 1);
        CHECK.dueText("the four sizes", Check.shown(x, 1), "(0,4096,7,8)");
    }

    private static void atEdges() {
        SliceViews x = new SliceViews();
        Check.grid(x, 1, 1, 1, 2);
        CHECK.due("at(0)", x.at(0), 1);
        CHECK.due("at 2", x.at(0), 2);
        CHECK.due("at 3", x.at(0), 3);
        CHECK.due("at 4", x.at(1), 4);
        CHECK.due("a fifth index", x.at(0), -1);
        CHECK.due("put at the four", x.put(1, 5), 0);
        CHECK.due("cell 1", x.cell(1, 1), 5);
        CHECK.due("any int is an index", x.at(Integer.MIN_VALUE), 1);
        CHECK.due("any int is an index", x.at(Integer.MAX_VALUE), 2);
    }

    private static void usedUpAlsoIfRefused() {
        SliceViews x = new SliceViews();
        Check.grid(x, 2);
        x.at(0);
        CHECK.due("put(9)", x.put(9, 1), -14);
        CHECK.due("put(9) used the spot", x.at(0), 1);
        x.at(1);
        CHECK.due("put at two", x.put(1, 1), -1);
        CHECK.due("that used the spot", x.at(0), 1);
        CHECK.due("get(9)", x.get(9), 0);
        CHECK.due("get(9) used the spot", x.at(0), 1);
        x.get(1);
        CHECK.due("get used the spot", x.at(0), 1);
        x.axis(4096);
        x.axis(4096);
        CHECK.due("grid without room", x.grid(), -12);
        CHECK.due("that used the sizes", x.axis(2), 1);
        CHECK.due("spread(9)", x.spread(9), -14);
        CHECK.due("that used the sizes", x.axis(3), 1);
        CHECK.due("spread to 3", x.spread(1), -3);
        CHECK.due("that used the sizes", x.axis(2), 1);
        CHECK.due("shaped(9)", x.shaped(9), -14);
        CHECK.due("that used the sizes", x.axis(3), 1);
        CHECK.due("shaped to 3", x.shaped(1), -3);
        CHECK.due("that used the sizes", x.axis(2), 1);
        CHECK.due("grid", x.grid(), 2);
        CHECK.due("that used the sizes", x.axis(2), 1);
    }

    private static void notUsedUpByOthers() {
        SliceViews x = new SliceViews();
        Check.grid(x, 2, 2);
        x.axis(2);
        x.at(1);
        x.feed(0, 0, 0, 0, 0);
        x.cell(1, 0);
        x.axes(1);
        x.size(1, 0);
        x.cells(1);
        x.turned(1, 0, 1);
        x.copy(1, 2);
        x.shares(1, 2);
        x.code();
        x.place();
        CHECK.due("the tray is still there", x.end(0), 0);
        x.view(1);
        CHECK.due("the sizes are still there", x.axis(1), 2);
        CHECK.due("the spot is still there", x.at(0), 2);
        CHECK.due("put needs no sizes", x.put(1, 8), 0);
        CHECK.due("the sizes are still there", x.axis(2), 3);
        x.at(1);
        CHECK.due("shaped needs no spot", x.shaped(1), 4);
        CHECK.due("the spot is still there", x.at(0), 2);
        CHECK.due("get of 2, 1 turned", x.get(1), 8);
    }
}
