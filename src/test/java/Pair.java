/** The class and the model side by side: every call goes to both, and the two answers must be the same. */
final class Pair {
    /** The last call on an object of which the document promises something. */
    static final int LAST = 512;

    private final Check check;
    private final String run;
    private final SliceViews real = new SliceViews();
    final Model model = new Model();
    private int calls = 0;

    Pair(Check check, String run) {
        this.check = check;
        this.run = run;
    }

    int callsLeft() {
        return LAST - calls;
    }

    int feed(int a, int b, int c, int d, int e) {
        return due("feed", real.feed(a, b, c, d, e), model.feed(a, b, c, d, e), a, b, c, d, e);
    }

    int end(int n) {
        return due("end", real.end(n), model.end(n), n);
    }

    int axis(int n) {
        return due("axis", real.axis(n), model.axis(n), n);
    }

    int at(int i) {
        return due("at", real.at(i), model.at(i), i);
    }

    int grid() {
        return due("grid", real.grid(), model.grid());
    }

    int put(int g, long v) {
        return due("put", real.put(g, v), model.put(g, v), g, v);
    }

    long get(int g) {
        return due("get", real.get(g), model.get(g), g);
    }

    long cell(int g, int n) {
        return due("cell", real.cell(g, n), model.cell(g, n), g, n);
    }

    int code() {
        return due("code", real.code(), model.code());
    }

    int axes(int g) {
        return due("axes", real.axes(g), model.axes(g), g);
    }

    int size(int g, int axis) {
        return due("size", real.size(g, axis), model.size(g, axis), g, axis);
    }

    int cells(int g) {
        return due("cells", real.cells(g), model.cells(g), g);
    }

    int view(int g) {
        return due("view", real.view(g), model.view(g), g);
    }

    int place() {
        return due("place", real.place(), model.place());
    }

    int turned(int g, int a, int b) {
        return due("turned", real.turned(g, a, b), model.turned(g, a, b), g, a, b);
    }

    int spread(int g) {
        return due("spread", real.spread(g), model.spread(g), g);
    }

    int shaped(int g) {
        return due("shaped", real.shaped(g), model.shaped(g), g);
    }

    int copy(int g, int h) {
        return due("copy", real.copy(g, h), model.copy(g, h), g, h);
    }

    int shares(int g, int h) {
        return due("shares", real.shares(g, h), model.shares(g, h), g, h);
    }

    private int due(String name, long got, long want, long... with) {
        calls++;
        if (got != want) {
            check.due(run + ", call " + calls + ": " + name + java.util.Arrays.toString(with), got, want);
        }
        return (int) got;
    }
}
