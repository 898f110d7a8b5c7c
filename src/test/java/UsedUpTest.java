/**
 * "SPOTS and sizes are collected by at() and axis(), used up by the next call that needs them, also if it is refused",
 * and the tray's text by view(): for each call, by each of its answers.
 */
public final class UsedUpTest {
    private static final Check CHECK = new Check();

    public static void main(String[] args) {
        putUsesTheSpot();
        getUsesTheSpot();
        gridUsesTheSizes();
        spreadUsesTheSizes();
        shapedUsesTheSizes();
        withoutANumberLeft();
        viewUsesTheText();
        aRefusedOneIsNotCollected();
        aSpotIsNotTakenTwice();
        otherCallsLeaveTheSpot();
        otherCallsLeaveTheSizes();
        otherCallsLeaveTheTray();
        CHECK.end();
    }

    /** Grid 1 has 2 cells, 2 is a spread view of 3 by 2, 3 has no axes. */
    private static SliceViews threeGrids() {
        SliceViews x = new SliceViews();
        Check.counted(x, 2);
        Check.spread(x, 1, 3, 2);
        x.grid();
        return x;
    }

    private static void spotIsGone(SliceViews x, String after) {
        CHECK.due("put without a spot after " + after, x.put(1, 55), -1);
        CHECK.due("and where none is needed", x.put(3, 56), 0);
        CHECK.due("it is written", x.cell(3, 0), 56);
        for (int n = 1; n <= 4; n++) {
            CHECK.due("four may come again after " + after, x.at(0), n);
        }
    }

    private static void sizesAreGone(SliceViews x, String after, int next) {
        CHECK.due("grid without sizes after " + after, x.grid(), next);
        CHECK.due("its axes", x.axes(next), 0);
        for (int n = 1; n <= 4; n++) {
            CHECK.due("four may come again after " + after, x.axis(1), n);
        }
    }

    private static void putDue(int g, int answer, int... spot) {
        SliceViews x = threeGrids();
        CHECK.due("put", Check.put(x, g, 9, spot), answer);
        spotIsGone(x, "put that answers " + answer);
    }

    private static void putUsesTheSpot() {
        putDue(1, 0, 1);
        putDue(4, -14, 1);
        putDue(0, -14, 0, 0, 0, 0);
        putDue(1, -1, 1, 0);
        putDue(1, -1, 0, 0, 0, 0);
        putDue(3, -1, 0);
        putDue(2, -5, 0, 0);
        putDue(1, -2, 2);
        putDue(1, -2, -1);
    }

    private static void getDue(int g, long answer, int code, int... spot) {
        SliceViews x = threeGrids();
        CHECK.due("get", Check.get(x, g, spot), answer);
        CHECK.due("code", x.code(), code);
        spotIsGone(x, "get with code " + code);
    }

    private static void getUsesTheSpot() {
        getDue(1, 101, 0, 1);
        getDue(2, 101, 0, 2, 1);
        getDue(4, 0, 14, 1);
        getDue(-1, 0, 14, 0, 0, 0, 0);
        getDue(1, 0, 1, 1, 0);
        getDue(3, 0, 1, 0);
        getDue(1, 0, 2, 2);
        getDue(2, 0, 2, 2, -1);
    }

    private static void gridUsesTheSizes() {
        SliceViews x = threeGrids();
        CHECK.due("grid", Check.grid(x, 3, 4), 4);
        sizesAreGone(x, "grid", 5);
        SliceViews y = threeGrids();
        CHECK.due("grid without room", Check.grid(y, 4096, 4096, 1, 1), -12);
        sizesAreGone(y, "grid without room", 4);
    }

    private static void spreadDue(int g, int answer, int... sizes) {
        SliceViews x = threeGrids();
        CHECK.due("spread", Check.spread(x, g, sizes), answer);
        sizesAreGone(x, "spread that answers " + answer, answer > 0 ? 5 : 4);
    }

    private static void spreadUsesTheSizes() {
        spreadDue(1, 4, 5, 2);
        spreadDue(1, 4, 1, 1, 1, 2);
        spreadDue(4, -14, 5, 2);
        spreadDue(0, -14, 1, 1, 1, 2);
        spreadDue(1, -3, 2, 5);
        spreadDue(1, -12, 4096, 4096, 2);
    }

    private static void shapedDue(int g, int answer, int... sizes) {
        SliceViews x = threeGrids();
        CHECK.due("shaped", Check.shaped(x, g, sizes), answer);
        sizesAreGone(x, "shaped that answers " + answer, answer > 0 ? 5 : 4);
    }

    private static void shapedUsesTheSizes() {
        shapedDue(1, 4, 2, 1);
        shapedDue(2, 4, 1, 2, 3, 1);
        shapedDue(4, -14, 2);
        shapedDue(-2, -14, 1, 1, 1, 2);
        shapedDue(1, -3, 3);
        SliceViews x = new SliceViews();
        Check.grid(x, 300, 300);
        CHECK.due("shaped without room", Check.shaped(x, 1, 300, 300), -12);
        sizesAreGone(x, "shaped without room", 2);
    }

    private static void withoutANumberLeft() {
        SliceViews x = new SliceViews();
        Check.grid(x, 1);
        for (int n = 2; n <= 400; n++) {
            x.turned(1, 0, 0);
        }
        CHECK.due("grid", Check.grid(x, 1, 1), -12);
        CHECK.due("used the sizes", x.axis(1), 1);
        CHECK.due("spread", x.spread(1), -12);
        CHECK.due("used the sizes", x.axis(1), 1);
        CHECK.due("shaped", x.shaped(1), -12);
        CHECK.due("used the sizes", x.axis(1), 1);
        Check.feedText(x, "0");
        CHECK.due("view", x.view(1), -12);
        CHECK.due("used the text", x.end(1), -1);
        CHECK.due("but not the sizes", x.axis(1), 2);
    }

    private static void viewDue(int g, String text, int answer) {
        SliceViews x = threeGrids();
        CHECK.due("view " + text, Check.view(x, g, text), answer);
        CHECK.due("no byte is left", x.end(1), -1);
        CHECK.due("the next text begins anew", x.feed(0x31202020, 0x20202020, 0x20202020, 0x20202020, 0x20202020), 20);
        int next = answer > 0 ? answer + 1 : 4;
        CHECK.due("view", x.view(1), next);
        CHECK.dueText("1", Check.shown(x, next), "() 101");
        CHECK.due("then the empty text", x.view(1), next + 1);
        CHECK.dueText("the whole", Check.shown(x, next + 1), "(2) 100 101");
    }

    private static void viewUsesTheText() {
        viewDue(1, "0", 4);
        viewDue(1, "", 4);
        viewDue(4, "0", -14);
        viewDue(0, "x", -14);
        viewDue(1, "x", -20);
        viewDue(1, "2", -20);
        viewDue(1, "*,*,*,*", -20);
    }

    private static void aRefusedOneIsNotCollected() {
        SliceViews x = new SliceViews();
        Check.tellSizes(x, 1, 1, 2, 2);
        CHECK.due("a fifth size", x.axis(7), -1);
        CHECK.due("no size", x.axis(-7), -1);
        CHECK.due("grid of the four", x.grid(), 1);
        Check.tellSpot(x, 0, 0, 1, 1);
        CHECK.due("a fifth index", x.at(9), -1);
        CHECK.due("put at the four", x.put(1, 5), 0);
        CHECK.dueText("there", Check.shown(x, 1), "(1,1,2,2) 0 0 0 5");
        x.axis(3);
        CHECK.due("no size", x.axis(4097), -1);
        CHECK.due("grid of the one", x.grid(), 2);
        CHECK.dueText("one axis", Check.shown(x, 2), "(3) 0 0 0");
    }

    private static void aSpotIsNotTakenTwice() {
        SliceViews x = threeGrids();
        CHECK.due("put", Check.put(x, 1, 9, 1), 0);
        CHECK.due("get without a spot of its own", x.get(1), 0);
        CHECK.due("code", x.code(), 1);
        CHECK.due("get", Check.get(x, 1, 1), 9);
        CHECK.due("put without a spot of its own", x.put(1, 8), -1);
        CHECK.due("stays", x.cell(1, 1), 9);
    }

    private static void otherCallsLeaveTheSpot() {
        SliceViews x = threeGrids();
        x.at(1);
        x.axis(2);
        x.grid();
        Check.spread(x, 1, 2);
        Check.spread(x, 9, 2);
        Check.shaped(x, 1, 2);
        Check.view(x, 1, ":");
        Check.view(x, 1, "?");
        x.cell(1, 0);
        x.cell(9, 9);
        askAll(x);
        CHECK.due("the next is the second", x.at(0), 2);
        CHECK.due("which spread view 2 needs", x.get(2), 100);
        CHECK.due("code", x.code(), 0);
    }

    private static void otherCallsLeaveTheSizes() {
        SliceViews x = threeGrids();
        x.axis(5);
        Check.put(x, 1, 3, 0);
        Check.put(x, 9, 3, 0);
        Check.get(x, 1, 0);
        Check.get(x, 1);
        Check.view(x, 1, ":");
        Check.view(x, 1, "?");
        x.cell(1, 0);
        askAll(x);
        CHECK.due("the next is the second", x.axis(2), 2);
        CHECK.due("spread to both", x.spread(1), 6);
        CHECK.due("cells", x.cells(6), 10);
    }

    private static void otherCallsLeaveTheTray() {
        SliceViews x = threeGrids();
        Check.feedText(x, "-1:");
        Check.put(x, 1, 101, 1);
        Check.get(x, 1, 0);
        Check.grid(x, 1);
        Check.spread(x, 1, 1, 2);
        Check.shaped(x, 1, 2);
        askAll(x);
        CHECK.due("end of more", x.end(4), -1);
        CHECK.due("view by the text", x.view(1), 8);
        CHECK.dueText("-1:", Check.shown(x, 8), "(1) 101");
    }

    /** The calls that need nothing collected; one of them makes a view. */
    private static void askAll(SliceViews x) {
        x.code();
        x.place();
        x.axes(1);
        x.size(1, 0);
        x.cells(1);
        x.turned(1, 0, 0);
        x.turned(1, 0, 1);
        x.copy(1, 1);
        x.copy(1, 2);
        x.shares(1, 2);
        x.axis(-1);
        x.end(-1);
    }
}
