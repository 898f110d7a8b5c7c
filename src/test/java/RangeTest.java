import java.util.ArrayList;
import java.util.List;

/**
 * Ranges of view texts (promise 14): every from, to and step around the ends of small axes, and the edges that the
 * document names by hand.
 */
public final class RangeTest {
    private static final Check CHECK = new Check();
    private static final String LEFT_OUT = "";

    public static void main(String[] args) {
        for (int size = 0; size <= 5; size++) {
            everyRange(size);
        }
        stepAboveZero();
        stepBelowZero();
        leftOutParts();
        upToBeforeTo();
        noPlaces();
        farNumbers();
        rangesOfTurnedSteps();
        CHECK.end();
    }

    private static List<String> numbersAround(int size) {
        List<String> numbers = new ArrayList<>();
        numbers.add(LEFT_OUT);
        for (int n = -size - 2; n <= size + 2; n++) {
            numbers.add(String.valueOf(n));
        }
        return numbers;
    }

    private static void everyRange(int size) {
        for (String from : numbersAround(size)) {
            for (String to : numbersAround(size)) {
                SliceViews x = new SliceViews();
                Check.counted(x, size);
                int next = 2;
                for (String step : numbersAround(size)) {
                    String text = from + ":" + to + (step.equals(LEFT_OUT) ? "" : ":" + step);
                    if (step.equals("0")) {
                        CHECK.due(text, Check.view(x, 1, text), -20);
                    } else {
                        CHECK.due(text, Check.view(x, 1, text), next);
                        CHECK.dueText(text + " of " + size, Check.shown(x, next), due(size, from, to, step));
                        next++;
                    }
                }
            }
        }
    }

    /** The document's words one after the other, with a list of places instead of a count of them. */
    private static String due(int size, String from, String to, String step) {
        int by = step.equals(LEFT_OUT) ? 1 : Integer.parseInt(step);
        int first = by > 0 ? bound(from, 0, size, 0, size) : bound(from, size - 1, size, -1, size - 1);
        int last = by > 0 ? bound(to, size, size, 0, size) : bound(to, -1, size, -1, size - 1);
        StringBuilder cells = new StringBuilder();
        int count = 0;
        for (int place = first; by > 0 ? place < last : place > last; place += by) {
            cells.append(" ").append(100 + place);
            count++;
        }
        return "(" + count + ")" + cells;
    }

    private static int bound(String told, int leftOut, int size, int low, int high) {
        if (told.equals(LEFT_OUT)) {
            return leftOut;
        }
        int place = Integer.parseInt(told);
        if (place < 0) {
            place += size;
        }
        return place < low ? low : place > high ? high : place;
    }

    /** Ranges of four cells, 100 .. 103. */
    private static void four(String text, String want) {
        SliceViews x = new SliceViews();
        Check.counted(x, 4);
        CHECK.due(text, Check.view(x, 1, text), 2);
        CHECK.due("place of " + text, x.place(), -1);
        CHECK.dueText(text, Check.shown(x, 2), want);
    }

    // "from and to below 0 count from n; with a step above 0 .. both are cut to 0 .. n"
    private static void stepAboveZero() {
        four("-1:", "(1) 103");
        four("-4:", "(4) 100 101 102 103");
        four("-5:", "(4) 100 101 102 103");
        four("0:", "(4) 100 101 102 103");
        four("3:", "(1) 103");
        four("4:", "(0)");
        four("5:", "(0)");
        four(":-1", "(3) 100 101 102");
        four(":-3", "(1) 100");
        four(":-4", "(0)");
        four(":-5", "(0)");
        four(":0", "(0)");
        four(":1", "(1) 100");
        four(":3", "(3) 100 101 102");
        four(":4", "(4) 100 101 102 103");
        four(":5", "(4) 100 101 102 103");
        four("-0:-0", "(0)");
    }

    // "below 0 from is n - 1 and to -1 if left out (a told one below 0 counts from n), both are cut to -1 .. n - 1"
    private static void stepBelowZero() {
        four("3::-1", "(4) 103 102 101 100");
        four("4::-1", "(4) 103 102 101 100");
        four("-1::-1", "(4) 103 102 101 100");
        four("-4::-1", "(1) 100");
        four("-5::-1", "(0)");
        four("0::-1", "(1) 100");
        four(":0:-1", "(3) 103 102 101");
        four(":2:-1", "(1) 103");
        four(":3:-1", "(0)");
        four(":4:-1", "(0)");
        four(":-1:-1", "(0)");
        four(":-2:-1", "(1) 103");
        four(":-4:-1", "(3) 103 102 101");
        four(":-5:-1", "(4) 103 102 101 100");
        four(":-6:-1", "(4) 103 102 101 100");
        four(":-0:-1", "(3) 103 102 101");
    }

    // "step (1 if left out)", and from and to if left out
    private static void leftOutParts() {
        four(":", "(4) 100 101 102 103");
        four("::", "(4) 100 101 102 103");
        four("1:3:", "(2) 101 102");
        four("1:3", "(2) 101 102");
        four("1:3:1", "(2) 101 102");
        four("::1", "(4) 100 101 102 103");
        four("::-1", "(4) 103 102 101 100");
    }

    // "the places are from, from + step .. up to before to"
    private static void upToBeforeTo() {
        four("::2", "(2) 100 102");
        four("::3", "(2) 100 103");
        four("::4", "(1) 100");
        four(":3:2", "(2) 100 102");
        four(":2:2", "(1) 100");
        four("0:3:3", "(1) 100");
        four("0:4:3", "(2) 100 103");
        four("::-2", "(2) 103 101");
        four("::-3", "(2) 103 100");
        four("::-4", "(1) 103");
        four(":1:-2", "(1) 103");
        four(":0:-2", "(2) 103 101");
        four(":0:-3", "(1) 103");
    }

    private static void noPlaces() {
        four("1:1", "(0)");
        four("2:1", "(0)");
        four("1:1:-1", "(0)");
        four("1:2:-1", "(0)");
        SliceViews x = new SliceViews();
        Check.grid(x, 0, 2);
        String[] texts = {":", "::-1", "0:", ":0", "-1:", "5:9", "9::-3", ":-1:-1", "0:0:2"};
        for (int n = 0; n < texts.length; n++) {
            CHECK.due(texts[n] + " of none", Check.view(x, 1, texts[n]), n + 2);
            CHECK.dueText(texts[n] + " of none", Check.shown(x, n + 2), "(0,2)");
            CHECK.due("shares none", x.shares(n + 2, 1), 0);
        }
    }

    private static void farNumbers() {
        four("-999999999:999999999:999999999", "(1) 100");
        four("999999999:-999999999:-999999999", "(1) 103");
        four("999999999:", "(0)");
        four(":-999999999", "(0)");
        four("-999999999::-1", "(0)");
        four(":999999999:-1", "(0)");
        SliceViews x = new SliceViews();
        Check.grid(x, 4096, 24);
        Check.put(x, 1, 9, 4095, 23);
        CHECK.due("far steps of far cells", Check.view(x, 1, "::-999999999,::-999999999"), 2);
        CHECK.dueText("the last cell", Check.shown(x, 2), "(1,1) 9");
        CHECK.due("again of that", Check.view(x, 2, "::-999999999,::999999999"), 3);
        CHECK.dueText("the last cell", Check.shown(x, 3), "(1,1) 9");
        CHECK.due("the longest step that is taken", Check.view(x, 1, "::-4095,::23"), 4);
        CHECK.dueText("four corners", Check.shown(x, 4), "(2,2) 0 9 0 0");
    }

    private static void rangesOfTurnedSteps() {
        SliceViews x = new SliceViews();
        Check.counted(x, 9);
        CHECK.due("::-2", Check.view(x, 1, "::-2"), 2);
        CHECK.due("::-2 of it", Check.view(x, 2, "::-2"), 3);
        CHECK.dueText("::-2 of it", Check.shown(x, 3), "(3) 100 104 108");
        CHECK.due("1: of it", Check.view(x, 2, "1:-1"), 4);
        CHECK.dueText("1:-1 of it", Check.shown(x, 4), "(3) 106 104 102");
        CHECK.due("-1 of it", Check.view(x, 4, "-1"), 5);
        CHECK.due("its cell", x.get(5), 102);
    }
}
