/**
 * The boundaries that the promises themselves name, one method for each promise: the last value that is taken, the
 * first that is refused, and what later calls tell of the state behind them. (Promises 14 and 15 have TextEdgeTest.)
 */
public final class PromiseEdgeTest {
    private static final Check CHECK = new Check();
    private static final int BLANKS = 0x20202020;

    public static void main(String[] args) {
        newObject();
        feedBytes();
        feedToTheLimits();
        end();
        axis();
        at();
        grid();
        put();
        get();
        cell();
        code();
        axes();
        size();
        cells();
        turned();
        spread();
        spreadFromTheLast();
        shaped();
        shapedIsNew();
        copy();
        copyAsThroughACopy();
        shares();
        CHECK.end();
    }

    // Promise 1: "No grids, nothing collected"
    private static void newObject() {
        SliceViews x = new SliceViews();
        CHECK.due("code", x.code(), 0);
        CHECK.due("place", x.place(), -1);
        CHECK.due("no grid 1", x.axes(1), -14);
        CHECK.due("no grid 0", x.axes(0), -14);
        CHECK.due("no grid to view", x.view(1), -14);
        CHECK.due("no grid to spread", x.spread(1), -14);
        CHECK.due("no grid to shape", x.shaped(1), -14);
        CHECK.due("no grid to turn", x.turned(1, 0, 0), -14);
        CHECK.due("no grids to copy", x.copy(1, 1), -14);
        CHECK.due("no grids that share", x.shares(1, 1), -14);
        CHECK.due("no byte", new SliceViews().end(1), -1);
        CHECK.due("the first size", new SliceViews().axis(1), 1);
        CHECK.due("the first index", new SliceViews().at(1), 1);
        SliceViews y = new SliceViews();
        CHECK.due("a grid of no sizes", y.grid(), 1);
        CHECK.due("no axes", y.axes(1), 0);
        CHECK.due("put at no indexes", y.put(1, 6), 0);
        CHECK.due("view by no text", y.view(1), 2);
        CHECK.due("its cell", y.get(2), 6);
    }

    // Promise 2: "The twenty bytes of five ints, the highest first .. how many it has then"
    private static void feedBytes() {
        SliceViews x = new SliceViews();
        x.grid();
        for (int at = 0; at < 20; at++) {
            int[] ints = {BLANKS, BLANKS, BLANKS, BLANKS, BLANKS};
            int shift = 8 * (3 - at % 4);
            ints[at / 4] = BLANKS & ~(255 << shift) | 0xC1 << shift;
            CHECK.due("feed", x.feed(ints[0], ints[1], ints[2], ints[3], ints[4]), 20);
            CHECK.due("view", x.view(1), -20);
            CHECK.due("the byte 193", x.place(), at);
        }
        CHECK.due("the next", x.feed(BLANKS, BLANKS, BLANKS, BLANKS, BLANKS), 20);
        CHECK.due("behind it", x.feed(BLANKS, BLANKS, BLANKS, BLANKS, '?'), 40);
        CHECK.due("view", x.view(1), -20);
        CHECK.due("the bytes 0 before the last", x.place(), 36);
        x.feed(BLANKS, BLANKS, BLANKS, BLANKS, BLANKS);
        x.end(7);
        CHECK.due("behind an end", x.feed(0x3F000000, 0, 0, 0, 0), 27);
        x.view(1);
        CHECK.due("its place", x.place(), 7);
    }

    // "-1, and none does, if it would have more than 16000, or more than 65536 bytes were fed in all": 800 feeds fill a
    // tray, and 3276 come to 65520 bytes, so both limits lie behind the 512 calls for which an object is used.
    private static void feedToTheLimits() {
        SliceViews x = new SliceViews();
        for (int n = 1; n <= 800; n++) {
            CHECK.due("feed", x.feed(BLANKS, BLANKS, BLANKS, BLANKS, BLANKS), 20 * n);
        }
        CHECK.due("above 16000", x.feed(0, 0, 0, 0, 0), -1);
        CHECK.due("none goes in", x.end(16001), -1);
        CHECK.due("all stay", x.end(16000), 16000);
        CHECK.due("one less is not enough", x.end(15981), 15981);
        CHECK.due("above 16000", x.feed(0, 0, 0, 0, 0), -1);
        CHECK.due("all stay", x.end(15980), 15980);
        CHECK.due("just 16000", x.feed(BLANKS, BLANKS, BLANKS, BLANKS, 0x3F202020), 16000);
        x.grid();
        CHECK.due("view by 16000 bytes", x.view(1), -20);
        CHECK.due("its place", x.place(), 15996);
        for (int n = 802; n <= 3276; n++) {
            x.end(0);
            CHECK.due("feed up to 65520 in all", x.feed(0, 0, 0, 0, 0), 20);
        }
        CHECK.due("above 65536 in all", x.feed(0, 0, 0, 0, 0), -1);
        CHECK.due("none goes in", x.end(21), -1);
        CHECK.due("all stay", x.end(20), 20);
        CHECK.due("nor into an empty tray", x.end(0), 0);
        CHECK.due("above 65536 in all", x.feed(0, 0, 0, 0, 0), -1);
    }

    // Promise 3: "-1, and all stays, if n is below 0 or it has not so many"
    private static void end() {
        SliceViews x = new SliceViews();
        Check.counted(x, 9);
        CHECK.due("0 of none", x.end(0), 0);
        CHECK.due("1 of none", x.end(1), -1);
        x.feed(0x353A3720, BLANKS, BLANKS, BLANKS, BLANKS);
        CHECK.due("21 of 20", x.end(21), -1);
        CHECK.due("-1", x.end(-1), -1);
        CHECK.due("the least int", x.end(Integer.MIN_VALUE), -1);
        CHECK.due("the greatest int", x.end(Integer.MAX_VALUE), -1);
        CHECK.due("20 of 20", x.end(20), 20);
        CHECK.due("all stays", x.view(1), 2);
        CHECK.dueText("5:7", Check.shown(x, 2), "(2) 105 106");
        x.feed(0x353A3720, BLANKS, BLANKS, BLANKS, BLANKS);
        CHECK.due("3", x.end(3), 3);
        CHECK.due("4 of 3", x.end(4), -1);
        CHECK.due("3 of 3", x.end(3), 3);
        CHECK.due("2 of 3", x.end(2), 2);
        CHECK.due("the third byte is gone", x.end(3), -1);
        CHECK.due("another comes there", x.feed(0x36202020, BLANKS, BLANKS, BLANKS, BLANKS), 22);
        CHECK.due("view", x.view(1), 3);
        CHECK.dueText("5:6", Check.shown(x, 3), "(1) 105");
        x.feed(0x3F3F3F3F, 0, 0, 0, 0);
        CHECK.due("none of 20", x.end(0), 0);
        CHECK.due("the empty text", x.view(1), 4);
        CHECK.due("the whole", x.cells(4), 9);
    }

    // Promise 4: "-1 if it is not 0 .. 4096 or there are 4"
    private static void axis() {
        SliceViews x = new SliceViews();
        CHECK.due("-1", x.axis(-1), -1);
        CHECK.due("0", x.axis(0), 1);
        CHECK.due("4097", x.axis(4097), -1);
        CHECK.due("4096", x.axis(4096), 2);
        CHECK.due("the third", x.axis(1), 3);
        CHECK.due("the fourth", x.axis(2), 4);
        CHECK.due("a fifth", x.axis(3), -1);
        CHECK.due("a fifth 0", x.axis(0), -1);
        CHECK.due("a fifth -1", x.axis(-1), -1);
        CHECK.due("grid", x.grid(), 1);
        CHECK.dueText("the four", Check.shown(x, 1), "(0,4096,1,2)");
        CHECK.due("the first again", x.axis(3), 1);
    }

    // Promise 5: "-1 if there are 4"
    private static void at() {
        SliceViews x = new SliceViews();
        Check.grid(x, 2, 2, 2, 2);
        for (int n = 1; n <= 4; n++) {
            CHECK.due("index", x.at(n % 2), n);
        }
        CHECK.due("a fifth", x.at(1), -1);
        CHECK.due("a sixth", x.at(0), -1);
        CHECK.due("put at 1 0 1 0", x.put(1, 9), 0);
        CHECK.due("there", x.cell(1, 10), 9);
        int[] any = {Integer.MIN_VALUE, Integer.MAX_VALUE, -1, 4097};
        for (int n = 0; n < 4; n++) {
            CHECK.due("any index is collected", x.at(any[n]), n + 1);
        }
        CHECK.due("a fifth", x.at(Integer.MIN_VALUE), -1);
        CHECK.due("no such spot", x.get(1), 0);
        CHECK.due("code", x.code(), 2);
    }

    // Promise 6: "its number. -12"
    private static void grid() {
        SliceViews x = new SliceViews();
        CHECK.due("100000 cells", Check.grid(x, 400, 250), 1);
        CHECK.due("one more", Check.grid(x, 1), -12);
        CHECK.due("one more of no axes", Check.grid(x), -12);
        CHECK.due("no cells", Check.grid(x, 7, 0), 2);
        CHECK.dueText("no cells", Check.shown(x, 2), "(7,0)");
        CHECK.due("no third", x.cells(3), -14);
        SliceViews y = new SliceViews();
        for (int n = 1; n <= 400; n++) {
            y.grid();
        }
        CHECK.due("400", y.put(400, 3), 0);
        CHECK.due("no number for no cells", Check.grid(y, 0), -12);
        CHECK.due("400 stays", y.get(400), 3);
        CHECK.due("399 is another", y.get(399), 0);
    }

    // Promise 7: "The cell at the spot collected becomes v: 0. -14, -1, -5, -2"
    private static void put() {
        SliceViews x = new SliceViews();
        Check.grid(x, 2, 3);
        CHECK.due("the first spot", Check.put(x, 1, Long.MIN_VALUE, 0, 0), 0);
        CHECK.due("the last spot", Check.put(x, 1, Long.MAX_VALUE, 1, 2), 0);
        String before = Check.all(x);
        int[][] none = {{-1, 0}, {0, -1}, {2, 0}, {0, 3}, {2, 3}, {1, 3}, {Integer.MIN_VALUE, 0},
            {0, Integer.MAX_VALUE}, {1, -3}, {0, 4}, {1 << 30, 0}, {0, 1 << 31}};
        for (int[] spot : none) {
            CHECK.due("no spot " + spot[0] + " " + spot[1], Check.put(x, 1, 1, spot), -2);
        }
        int[][] other = {{}, {0}, {0, 0, 0}, {0, 0, 0, 0}};
        for (int[] spot : other) {
            CHECK.due(spot.length + " indexes", Check.put(x, 1, 1, spot), -1);
        }
        CHECK.dueText("none is written", Check.all(x), before);
        CHECK.dueText("the two are", before, "(2,3) -9223372036854775808 0 0 0 0 9223372036854775807");
        x.grid();
        CHECK.due("no axes, no index", x.put(2, 5), 0);
        CHECK.due("no axes, an index", Check.put(x, 2, 6, 0), -1);
        CHECK.due("stays", x.cell(2, 0), 5);
        Check.grid(x, 0, 3);
        CHECK.due("a size 0 has no spot", Check.put(x, 3, 1, 0, 0), -2);
        Check.grid(x, 3, 0);
        CHECK.due("a size 0 has no spot", Check.put(x, 4, 1, 2, 0), -2);
    }

    // Promise 8: "0 if code() is not 0 then: 14, 1, 2"
    private static void get() {
        SliceViews x = new SliceViews();
        Check.grid(x, 2, 2);
        for (int n = 0; n < 4; n++) {
            Check.put(x, 1, 6 + n, n / 2, n % 2);
        }
        readDue(x, "the first spot", Check.get(x, 1, 0, 0), 6, 0);
        readDue(x, "the last spot", Check.get(x, 1, 1, 1), 9, 0);
        int[][] none = {{-1, 1}, {1, -1}, {2, 0}, {0, 2}, {Integer.MAX_VALUE, 1}, {1, Integer.MIN_VALUE}, {1 << 31, 1}};
        for (int[] spot : none) {
            readDue(x, "no spot " + spot[0] + " " + spot[1], Check.get(x, 1, spot), 0, 2);
        }
        int[][] other = {{}, {1}, {1, 1, 1}, {1, 1, 1, 1}};
        for (int[] spot : other) {
            readDue(x, spot.length + " indexes", Check.get(x, 1, spot), 0, 1);
        }
        readDue(x, "grid 2", Check.get(x, 2, 1, 1), 0, 14);
        readDue(x, "grid 0", Check.get(x, 0, 1, 1), 0, 14);
        readDue(x, "the last spot again", Check.get(x, 1, 1, 1), 9, 0);
    }

    // Promise 9: "Cell n in row order (0 the first); 0 if code() is not 0 then: 14, 2"
    private static void cell() {
        SliceViews x = new SliceViews();
        Check.counted(x, 3);
        Check.view(x, 1, "::-1");
        Check.spread(x, 1, 2, 3);
        Check.view(x, 1, "3:");
        Check.view(x, 1, "1");
        readDue(x, "the first", x.cell(1, 0), 100, 0);
        readDue(x, "the last", x.cell(1, 2), 102, 0);
        readDue(x, "behind it", x.cell(1, 3), 0, 2);
        readDue(x, "before the first", x.cell(1, -1), 0, 2);
        readDue(x, "the least int", x.cell(1, Integer.MIN_VALUE), 0, 2);
        readDue(x, "the greatest int", x.cell(1, Integer.MAX_VALUE), 0, 2);
        readDue(x, "a view's first", x.cell(2, 0), 102, 0);
        readDue(x, "a view's last", x.cell(2, 2), 100, 0);
        readDue(x, "behind a view's last", x.cell(2, 3), 0, 2);
        readDue(x, "a spread view's last", x.cell(3, 5), 102, 0);
        readDue(x, "behind it", x.cell(3, 6), 0, 2);
        readDue(x, "none has no first", x.cell(4, 0), 0, 2);
        readDue(x, "no axes, the one", x.cell(5, 0), 101, 0);
        readDue(x, "no axes, a second", x.cell(5, 1), 0, 2);
        readDue(x, "grid 6", x.cell(6, 0), 0, 14);
        readDue(x, "grid 0", x.cell(0, 0), 0, 14);
    }

    private static void readDue(SliceViews x, String call, long got, long want, int code) {
        CHECK.due(call, got, want);
        CHECK.due("code() after " + call, x.code(), code);
    }

    // Promise 10: "The code of the latest get() or cell()"
    private static void code() {
        SliceViews x = new SliceViews();
        Check.counted(x, 1);
        CHECK.due("before the first", x.code(), 0);
        CHECK.due("a refused put", Check.put(x, 1, 1, 1), -2);
        CHECK.due("has no code", x.code(), 0);
        x.get(9);
        CHECK.due("get", x.code(), 14);
        CHECK.due("a put", Check.put(x, 1, 1, 0), 0);
        CHECK.due("has no code", x.code(), 14);
        x.cell(1, 1);
        CHECK.due("cell", x.code(), 2);
        CHECK.due("again", x.code(), 2);
        x.axes(9);
        x.size(9, 9);
        x.cells(9);
        x.copy(9, 9);
        x.shares(9, 9);
        x.turned(9, 9, 9);
        x.spread(9);
        x.shaped(9);
        x.view(9);
        x.place();
        x.end(9);
        CHECK.due("others have no code", x.code(), 2);
        x.get(1);
        CHECK.due("get", x.code(), 1);
        x.cell(1, 0);
        CHECK.due("cell", x.code(), 0);
    }

    // Promise 11: "How many axes. -14"
    private static void axes() {
        SliceViews x = new SliceViews();
        CHECK.due("no grid", x.axes(1), -14);
        Check.grid(x, 1, 1, 1, 1);
        x.grid();
        CHECK.due("four", x.axes(1), 4);
        CHECK.due("none", x.axes(2), 0);
        CHECK.due("behind the last", x.axes(3), -14);
        CHECK.due("before the first", x.axes(0), -14);
    }

    // Promise 12: "The size of an axis. -14, -2"
    private static void size() {
        SliceViews x = new SliceViews();
        Check.grid(x, 4096, 0, 3, 1);
        CHECK.due("the first", x.size(1, 0), 4096);
        CHECK.due("a size 0", x.size(1, 1), 0);
        CHECK.due("the last", x.size(1, 3), 1);
        CHECK.due("behind it", x.size(1, 4), -2);
        CHECK.due("before the first", x.size(1, -1), -2);
        CHECK.due("the least int", x.size(1, Integer.MIN_VALUE), -2);
        CHECK.due("the greatest int", x.size(1, Integer.MAX_VALUE), -2);
        x.grid();
        CHECK.due("no axes have no first", x.size(2, 0), -2);
        CHECK.due("no grid", x.size(3, 0), -14);
        CHECK.due("no grid, no axis", x.size(0, 4), -14);
    }

    // Promise 13: "How many cells. -14"
    private static void cells() {
        SliceViews x = new SliceViews();
        Check.grid(x, 3, 0, 4096);
        x.grid();
        Check.grid(x, 1111, 90);
        Check.spread(x, 2, 100, 1000);
        CHECK.due("a size 0", x.cells(1), 0);
        CHECK.due("no axes", x.cells(2), 1);
        CHECK.due("99990", x.cells(3), 99990);
        CHECK.due("100000", x.cells(4), 100000);
        CHECK.due("behind the last", x.cells(5), -14);
        CHECK.due("before the first", x.cells(0), -14);
    }

    // Promise 16: "A view with two axes exchanged. -14, -2, -12"
    private static void turned() {
        SliceViews x = new SliceViews();
        Check.grid(x, 2, 3, 1, 2);
        for (int n = 0; n < 12; n++) {
            Check.put(x, 1, n, n / 6, n / 2 % 3, 0, n % 2);
        }
        CHECK.due("the first and the last", x.turned(1, 0, 3), 2);
        CHECK.dueText("0 3", Check.shown(x, 2), "(2,3,1,2) 0 6 2 8 4 10 1 7 3 9 5 11");
        CHECK.due("the last and the first", x.turned(1, 3, 0), 3);
        CHECK.dueText("3 0", Check.shown(x, 3), Check.shown(x, 2));
        CHECK.due("one with itself", x.turned(1, 3, 3), 4);
        CHECK.dueText("3 3", Check.shown(x, 4), Check.shown(x, 1));
        CHECK.due("-1", x.turned(1, -1, 0), -2);
        CHECK.due("-1 second", x.turned(1, 0, -1), -2);
        CHECK.due("4", x.turned(1, 4, 0), -2);
        CHECK.due("4 second", x.turned(1, 0, 4), -2);
        CHECK.due("far ones", x.turned(1, Integer.MIN_VALUE, Integer.MAX_VALUE), -2);
        CHECK.due("no view", x.cells(5), -14);
        x.grid();
        CHECK.due("no axes", x.turned(5, 0, 0), -2);
        Check.grid(x, 3);
        CHECK.due("one axis with itself", x.turned(6, 0, 0), 7);
        CHECK.due("one axis with a second", x.turned(6, 0, 1), -2);
        CHECK.due("turned twice", x.turned(2, 0, 3), 8);
        CHECK.dueText("is as it was", Check.shown(x, 8), Check.shown(x, 1));
    }

    // Promise 17: "each size of g is that or 1"
    private static void spread() {
        SliceViews x = new SliceViews();
        Check.grid(x, 1, 3);
        Check.put(x, 1, 5, 0, 1);
        CHECK.due("that and that", Check.spread(x, 1, 1, 3), 2);
        CHECK.dueText("1 3", Check.shown(x, 2), "(1,3) 0 5 0");
        CHECK.due("1 and that", Check.spread(x, 1, 2, 3), 3);
        CHECK.dueText("2 3", Check.shown(x, 3), "(2,3) 0 5 0 0 5 0");
        CHECK.due("1 to 0", Check.spread(x, 1, 0, 3), 4);
        CHECK.dueText("0 3", Check.shown(x, 4), "(0,3)");
        CHECK.due("one less", Check.spread(x, 1, 1, 2), -3);
        CHECK.due("one more", Check.spread(x, 1, 1, 4), -3);
        CHECK.due("3 to 1", Check.spread(x, 1, 1, 1), -3);
        CHECK.due("3 to 0", Check.spread(x, 1, 1, 0), -3);
        CHECK.due("3 to 6", Check.spread(x, 1, 1, 6), -3);
        CHECK.due("no view", x.cells(5), -14);
        Check.grid(x, 0);
        CHECK.due("0 to 0", Check.spread(x, 5, 0), 6);
        CHECK.due("0 to 1", Check.spread(x, 5, 1), -3);
        CHECK.due("0 to 3 0", Check.spread(x, 5, 3, 0), 7);
        CHECK.dueText("3 0", Check.shown(x, 7), "(3,0)");
    }

    // "axes counted from the last"
    private static void spreadFromTheLast() {
        SliceViews x = new SliceViews();
        Check.counted(x, 2);
        CHECK.due("the last is that", Check.spread(x, 1, 3, 2), 2);
        CHECK.dueText("3 2", Check.shown(x, 2), "(3,2) 100 101 100 101 100 101");
        CHECK.due("the first is that", Check.spread(x, 1, 2, 3), -3);
        CHECK.due("four axes", Check.spread(x, 1, 1, 2, 1, 2), 3);
        CHECK.dueText("1 2 1 2", Check.shown(x, 3), "(1,2,1,2) 100 101 100 101");
        CHECK.due("no sizes", Check.spread(x, 1), -3);
        CHECK.due("fewer sizes than axes", Check.spread(x, 2, 2), -3);
        x.grid();
        x.put(4, 7);
        CHECK.due("no axes to no sizes", Check.spread(x, 4), 5);
        CHECK.dueText("one cell", Check.shown(x, 5), "() 7");
        CHECK.due("which is not written", x.put(5, 1), -5);
        CHECK.due("no axes to four", Check.spread(x, 4, 1, 2, 1, 1), 6);
        CHECK.dueText("two times", Check.shown(x, 6), "(1,2,1,1) 7 7");
        Check.grid(x, 2, 1, 2);
        Check.put(x, 7, 1, 0, 0, 1);
        Check.put(x, 7, 2, 1, 0, 0);
        CHECK.due("an axis in the middle", Check.spread(x, 7, 2, 2, 2), 8);
        CHECK.dueText("2 2 2", Check.shown(x, 8), "(2,2,2) 0 1 0 1 2 0 2 0");
    }

    // Promise 18: "-3 another number of cells; -12"
    private static void shaped() {
        SliceViews x = new SliceViews();
        Check.counted(x, 4);
        CHECK.due("4 to 4", Check.shaped(x, 1, 4), 2);
        CHECK.due("4 to 2 1 2 1", Check.shaped(x, 1, 2, 1, 2, 1), 3);
        CHECK.dueText("2 1 2 1", Check.shown(x, 3), "(2,1,2,1) 100 101 102 103");
        CHECK.due("4 to 3", Check.shaped(x, 1, 3), -3);
        CHECK.due("4 to 5", Check.shaped(x, 1, 5), -3);
        CHECK.due("4 to 4 0", Check.shaped(x, 1, 4, 0), -3);
        CHECK.due("4 to no sizes", Check.shaped(x, 1), -3);
        CHECK.due("no grid", x.cells(4), -14);
        x.grid();
        CHECK.due("1 to no sizes", Check.shaped(x, 4), 5);
        CHECK.due("1 to 1 1 1 1", Check.shaped(x, 4, 1, 1, 1, 1), 6);
        CHECK.due("1 to 0", Check.shaped(x, 4, 0), -3);
        Check.grid(x, 0, 3);
        CHECK.due("0 to 4096 0 4096 4096", Check.shaped(x, 7, 4096, 0, 4096, 4096), 8);
        CHECK.due("0 to 1", Check.shaped(x, 7, 1), -3);
        CHECK.due("0 to no sizes", Check.shaped(x, 7), -3);
        CHECK.due("0 to two to the 32nd", Check.shaped(x, 7, 4096, 4096, 256), -3);
        CHECK.due("0 to two to the 48th", Check.shaped(x, 7, 4096, 4096, 4096, 4096), -3);
        CHECK.due("4 to two to the 32nd and 4", Check.shaped(x, 1, 1321, 2501, 1300), -3);
    }

    // "A new grid with g's cells in row order"
    private static void shapedIsNew() {
        SliceViews x = new SliceViews();
        Check.counted(x, 4);
        Check.view(x, 1, "::-1");
        CHECK.due("shaped of a view", Check.shaped(x, 2, 2, 2), 3);
        CHECK.dueText("in the view's row order", Check.shown(x, 3), "(2,2) 103 102 101 100");
        x.turned(3, 0, 1);
        CHECK.due("shaped of a turned one", Check.shaped(x, 4, 4), 5);
        CHECK.dueText("in its row order", Check.shown(x, 5), "(4) 103 101 102 100");
        Check.spread(x, 1, 2, 4);
        CHECK.due("shaped of a spread one", Check.shaped(x, 6, 4, 2), 7);
        CHECK.dueText("in its row order", Check.shown(x, 7), "(4,2) 100 101 102 103 100 101 102 103");
        for (int g : new int[] {3, 5, 7}) {
            CHECK.due("shares none with the first", x.shares(g, 1), 0);
        }
        CHECK.due("its first cell", Check.put(x, 7, 1, 0, 0), 0);
        CHECK.due("comes once", x.cell(7, 4), 100);
        CHECK.due("the first stays", x.cell(1, 0), 100);
        CHECK.due("put into the first", Check.put(x, 1, 2, 3), 0);
        CHECK.due("the new one stays", x.cell(3, 0), 103);
    }

    // Promise 19: "-14, -5 h is spread, -3 other sizes"
    private static void copy() {
        SliceViews x = new SliceViews();
        Check.grid(x, 2, 3);
        Check.put(x, 1, 5, 1, 2);
        Check.grid(x, 2, 3);
        Check.grid(x, 3, 2);
        Check.grid(x, 6);
        Check.grid(x, 1, 2, 3);
        Check.grid(x, 2, 4);
        Check.grid(x, 1, 3);
        Check.spread(x, 1, 2, 3);
        String before = Check.all(x);
        for (int h = 3; h <= 7; h++) {
            CHECK.due("copy to other sizes", x.copy(1, h), -3);
            CHECK.due("copy from other sizes", x.copy(h, 1), -3);
        }
        CHECK.due("copy to a spread one", x.copy(2, 8), -5);
        CHECK.dueText("none is written", Check.all(x), before);
        CHECK.due("copy from a spread one", x.copy(8, 2), 0);
        CHECK.dueText("is written", Check.shown(x, 2), "(2,3) 0 0 0 0 0 5");
        Check.grid(x, 0, 2);
        Check.grid(x, 0, 2);
        Check.grid(x, 0, 3);
        CHECK.due("none to none", x.copy(9, 10), 0);
        CHECK.due("none to none of other sizes", x.copy(9, 11), -3);
        x.grid();
        x.grid();
        x.put(12, 4);
        CHECK.due("no axes to no axes", x.copy(12, 13), 0);
        CHECK.due("is written", x.get(13), 4);
        Check.grid(x, 1);
        CHECK.due("no axes to one axis of 1", x.copy(12, 14), -3);
        CHECK.due("one axis of 1 to no axes", x.copy(14, 12), -3);
        CHECK.due("stays", x.get(12), 4);
    }

    // "as through a copy"
    private static void copyAsThroughACopy() {
        SliceViews x = new SliceViews();
        Check.counted(x, 4);
        Check.view(x, 1, ":3");
        Check.view(x, 1, "1:");
        Check.view(x, 1, "::-1");
        CHECK.due("one up", x.copy(2, 3), 0);
        CHECK.dueText("one up", Check.shown(x, 1), "(4) 100 100 101 102");
        CHECK.due("one down", x.copy(3, 2), 0);
        CHECK.dueText("one down", Check.shown(x, 1), "(4) 100 101 102 102");
        CHECK.due("about", x.copy(1, 4), 0);
        CHECK.dueText("about", Check.shown(x, 1), "(4) 102 102 101 100");
        CHECK.due("about from the view", x.copy(4, 1), 0);
        CHECK.dueText("about from the view", Check.shown(x, 1), "(4) 100 101 102 102");
        CHECK.due("to itself", x.copy(1, 1), 0);
        CHECK.dueText("to itself", Check.shown(x, 1), "(4) 100 101 102 102");
        Check.view(x, 1, "1");
        Check.spread(x, 5, 4);
        CHECK.due("from a spread one of its own", x.copy(6, 1), 0);
        CHECK.dueText("from a spread one of its own", Check.shown(x, 1), "(4) 101 101 101 101");
    }

    // Promise 20: "1 if some cell of g is one of h, else 0"
    private static void shares() {
        SliceViews x = new SliceViews();
        Check.grid(x, 4, 4);
        int left = Check.view(x, 1, ":,:2");
        int right = Check.view(x, 1, ":,2:");
        int overlap = Check.view(x, 1, "3,1:3");
        int corner = Check.view(x, 1, "3,3");
        int none = Check.view(x, 1, "1:1");
        int spread = Check.spread(x, corner, 2, 2);
        int turned = x.turned(right, 0, 1);
        int shaped = Check.shaped(x, 1, 16);
        int noSpread = Check.spread(x, corner, 0);
        sharesDue(x, 1, 1, 1);
        sharesDue(x, left, right, 0);
        sharesDue(x, left, overlap, 1);
        sharesDue(x, right, overlap, 1);
        sharesDue(x, overlap, corner, 0);
        sharesDue(x, right, corner, 1);
        sharesDue(x, left, corner, 0);
        sharesDue(x, corner, corner, 1);
        sharesDue(x, none, none, 0);
        sharesDue(x, none, 1, 0);
        sharesDue(x, spread, right, 1);
        sharesDue(x, spread, left, 0);
        sharesDue(x, turned, corner, 1);
        sharesDue(x, turned, left, 0);
        sharesDue(x, shaped, 1, 0);
        sharesDue(x, shaped, shaped, 1);
        sharesDue(x, noSpread, corner, 0);
        sharesDue(x, noSpread, noSpread, 0);
        CHECK.due("behind the last", x.shares(1, noSpread + 1), -14);
        CHECK.due("before the first", x.shares(0, 1), -14);
    }

    private static void sharesDue(SliceViews x, int g, int h, int want) {
        CHECK.due("shares(" + g + ", " + h + ")", x.shares(g, h), want);
        CHECK.due("shares(" + h + ", " + g + ")", x.shares(h, g), want);
    }
}
