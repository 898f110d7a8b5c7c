/** What the tests share: counting wrong answers, and short ways to feed texts and to collect numbers. */
final class Check {
    private int wrong = 0;

    void due(String call, long got, long want) {
        if (got != want) {
            wrong++;
            System.out.println(call + " answered " + got + ", due is " + want);
        }
    }

    void end() {
        System.out.println(wrong == 0 ? "all answers are as due" : wrong + " answers are not as due");
        if (wrong != 0) {
            System.exit(1);
        }
    }

    /** A view of g by this text, put into the tray after what it has already been cut to. */
    static int view(SliceViews x, int g, String text) {
        feedText(x, text);
        return x.view(g);
    }

    static void feedText(SliceViews x, String text) {
        x.end(0);
        for (int from = 0; from < text.length(); from += 20) {
            x.feed(four(text, from), four(text, from + 4), four(text, from + 8), four(text, from + 12), four(text, from + 16));
        }
        x.end(text.length());
    }

    private static int four(String text, int from) {
        int packed = 0;
        for (int i = from; i < from + 4; i++) {
            packed = packed << 8 | (i < text.length() ? text.charAt(i) & 255 : 0);
        }
        return packed;
    }

    static int grid(SliceViews x, int... sizes) {
        tellSizes(x, sizes);
        return x.grid();
    }

    static void tellSizes(SliceViews x, int... sizes) {
        for (int size : sizes) {
            x.axis(size);
        }
    }

    static int spread(SliceViews x, int g, int... sizes) {
        tellSizes(x, sizes);
        return x.spread(g);
    }

    static int shaped(SliceViews x, int g, int... sizes) {
        tellSizes(x, sizes);
        return x.shaped(g);
    }

    static int put(SliceViews x, int g, long v, int... spot) {
        tellSpot(x, spot);
        return x.put(g, v);
    }

    static long get(SliceViews x, int g, int... spot) {
        tellSpot(x, spot);
        return x.get(g);
    }

    static void tellSpot(SliceViews x, int... spot) {
        for (int index : spot) {
            x.at(index);
        }
    }

    /** A grid of one axis whose cells are 100, 101 .. in order. */
    static int counted(SliceViews x, int size) {
        int g = grid(x, size);
        for (int i = 0; i < size; i++) {
            put(x, g, 100 + i, i);
        }
        return g;
    }

    /** The cells of g in row order, the count of its axes and the sizes, as one text. */
    static String shown(SliceViews x, int g) {
        StringBuilder out = new StringBuilder("(");
        for (int a = 0; a < x.axes(g); a++) {
            out.append(a == 0 ? "" : ",").append(x.size(g, a));
        }
        out.append(")");
        for (int n = 0; n < x.cells(g); n++) {
            out.append(" ").append(x.cell(g, n));
        }
        return out.toString();
    }

    /** Every grid as shown() tells it: what must be the same before and after a refused call. */
    static String all(SliceViews x) {
        StringBuilder out = new StringBuilder();
        for (int g = 1; x.axes(g) >= 0; g++) {
            out.append(g == 1 ? "" : "; ").append(shown(x, g));
        }
        return out.toString();
    }

    void dueText(String call, String got, String want) {
        if (!got.equals(want)) {
            wrong++;
            System.out.println(call + " answered " + got + ", due is " + want);
        }
    }
}
