import java.util.Arrays;

/** View texts (promises 14 and 15): the boundaries that 'Terms' names for items, blanks, numbers and faults. */
public final class TextEdgeTest {
    private static final Check CHECK = new Check();

    public static void main(String[] args) {
        itemsForTheAxesInOrder();
        blanksAnywhereButInNumbers();
        noOtherByteIsABlank();
        oneToNineDigits();
        numbersInEveryPart();
        bytesThatBelong();
        endsTooEarly();
        anEmptyTextIsTheWhole();
        aPlaceTakesTheAxisAway();
        placesFromMinusNToNMinusOne();
        newAxesAreForNoAxis();
        moreItemsThanAxes();
        stepZero();
        moreThanFourAxes();
        anItemBeginsBehindItsBlanks();
        orderOfFaults();
        bytesBeforeTheEndAlone();
        aFaultLeavesTheState();
        placeOfTheLatestView();
        CHECK.end();
    }

    /** A grid of this many axes of size 3, whose cell at 1, 1 .. is 5. */
    private static SliceViews threes(int axes) {
        SliceViews x = new SliceViews();
        int[] sizes = new int[axes];
        int[] spot = new int[axes];
        Arrays.fill(sizes, 3);
        Arrays.fill(spot, 1);
        Check.grid(x, sizes);
        Check.put(x, 1, 5, spot);
        return x;
    }

    private static void taken(int axes, String text, String sizes) {
        SliceViews x = threes(axes);
        CHECK.due("view '" + text + "'", Check.view(x, 1, text), 2);
        CHECK.due("place of '" + text + "'", x.place(), -1);
        CHECK.due("the text '" + text + "' is used up", x.end(1), -1);
        String shown = Check.shown(x, 2);
        CHECK.dueText("sizes by '" + text + "'", shown.substring(0, shown.indexOf(')') + 1), sizes);
    }

    private static void refused(int axes, String text, int place) {
        SliceViews x = threes(axes);
        CHECK.due("view '" + text + "'", Check.view(x, 1, text), -20);
        CHECK.due("place of '" + text + "'", x.place(), place);
        CHECK.due("the text '" + text + "' is used up", x.end(1), -1);
        CHECK.due("no view by '" + text + "'", x.cells(2), -14);
        CHECK.due("the whole by the next text", x.view(1), 2);
        CHECK.due("place of the next", x.place(), -1);
        CHECK.due("its axes", x.axes(2), axes);
    }

    // "items with commas between, for the axes in order; axes without an item stay whole"
    private static void itemsForTheAxesInOrder() {
        taken(4, "0:1", "(1,3,3,3)");
        taken(4, ":,0:1", "(3,1,3,3)");
        taken(4, ":,:,0:1", "(3,3,1,3)");
        taken(4, ":,:,:,0:1", "(3,3,3,1)");
        taken(4, "0:0,0:1,0:2,0:3", "(0,1,2,3)");
        taken(1, "0:2", "(2)");
        refused(4, "0:1 0:2", 4);
        refused(4, "0:1,,0:2", 4);
        refused(4, ",0:1", 0);
        refused(4, "0:1,", 4);
        refused(4, "0:1;0:2", 3);
    }

    // "Blanks (32) may stand anywhere but in numbers"
    private static void blanksAnywhereButInNumbers() {
        String[] pieces = {"1", ":", "-1", ":", "2", ",", "*", ",", "2"};
        for (int gap = 0; gap <= pieces.length; gap++) {
            taken(2, joined(pieces, gap, " "), "(1,1)");
            taken(2, joined(pieces, gap, "   "), "(1,1)");
        }
        taken(2, " 1 : -1 : 2 , * , 2 ", "(1,1)");
        taken(1, " : ", "(3)");
        taken(1, " : : ", "(3)");
        refused(1, "- 1", 1);
        refused(1, "0 0", 2);
        refused(1, "0  0", 3);
        refused(1, ":- 1", 2);
        refused(1, ":1 1", 3);
        refused(1, "::- 1", 3);
        refused(1, "::1 1", 4);
        refused(1, "- ", 1);
        refused(1, "00000000 1", 9);
    }

    private static String joined(String[] pieces, int gap, String blanks) {
        StringBuilder out = new StringBuilder();
        for (int i = 0; i < pieces.length; i++) {
            out.append(i == gap ? blanks : "").append(pieces[i]);
        }
        return out.append(gap == pieces.length ? blanks : "").toString();
    }

    private static void noOtherByteIsABlank() {
        for (int b : new int[] {0, 9, 10, 11, 12, 13, 31, 33, 95, 128 + 32, 255}) {
            String other = String.valueOf((char) b);
            refused(1, other, 0);
            refused(1, "1" + other, 1);
            refused(1, ":" + other, 1);
            refused(1, "*," + other + "1", 2);
            refused(1, " " + other, 1);
        }
    }

    // "a number (- or nothing, and 1 to 9 digits)"
    private static void oneToNineDigits() {
        taken(1, "2", "()");
        taken(1, "-3", "()");
        taken(1, "000000002", "()");
        taken(1, "-000000003", "()");
        taken(1, "999999999:", "(0)");
        taken(1, "-999999999:", "(3)");
        refused(1, "-", 1);
        refused(1, "0000000002", 9);
        refused(1, "-0000000003", 10);
        refused(1, "00000000000000", 9);
        refused(1, "+1", 0);
        refused(1, "--1", 1);
        refused(1, "1-", 1);
        refused(1, "1.0", 1);
        refused(1, "0x1", 1);
        refused(1, "\u00b2", 0);
    }

    private static void numbersInEveryPart() {
        String[] before = {"", "1:", "1:2:", ":", "::", " 1 : 2 : ", "*,", "1,"};
        for (String part : before) {
            int at = part.length();
            refused(2, part + "1234567890", at + 9);
            refused(2, part + "-1234567890", at + 10);
            refused(2, part + "-", at + 1);
            refused(2, part + "-:", at + 1);
            refused(2, part + "-,", at + 1);
            refused(2, part + "-*", at + 1);
            refused(2, part + "--", at + 1);
            refused(2, part + "- 1", at + 1);
        }
        taken(1, "000000000:999999999:000000001", "(3)");
        taken(1, "999999999:-999999999:-999999999", "(1)");
        taken(1, "-999999999:999999999:999999999", "(1)");
    }

    // "at the first byte that does not belong there": after each beginning, each of the 256 bytes
    private static void bytesThatBelong() {
        String digits = "0123456789";
        belong("", " -:*" + digits);
        belong(" ", " -:*" + digits);
        belong("-", digits);
        belong("1", " :," + digits);
        belong("-1", " :," + digits);
        belong("00000000", " :," + digits);
        belong("000000001", " :,");
        belong("-000000001", " :,");
        belong("1 ", " :,");
        belong(":", " -:," + digits);
        belong("1:", " -:," + digits);
        belong("1 : ", " -:," + digits);
        belong("1:-", digits);
        belong("1:2", " :," + digits);
        belong("1:000000002", " :,");
        belong("1:2 ", " :,");
        belong("::", " -," + digits);
        belong("1:2:", " -," + digits);
        belong(": : ", " -," + digits);
        belong("::-", digits);
        belong("::1", " ," + digits);
        belong("::-000000001", " ,");
        belong("::1 ", " ,");
        belong("*", " ,");
        belong("* ", " ,");
        belong("1,", " -:*" + digits);
        belong("*,", " -:*" + digits);
        belong(":, ", " -:*" + digits);
        belong("::1,", " -:*" + digits);
    }

    private static void belong(String begin, String bytes) {
        for (int b = 0; b < 256; b++) {
            SliceViews x = threes(4);
            String text = begin + (char) b;
            int answer = Check.view(x, 1, text);
            boolean stopsThere = answer == -20 && x.place() == begin.length();
            if (bytes.indexOf((char) b) < 0) {
                CHECK.due("byte " + b + " after '" + begin + "' does not belong", stopsThere ? 1 : 0, 1);
            } else {
                // A place that is too large is a fault of its item, which may begin with this very byte.
                boolean itemFault = b >= '3' && b <= '9';
                CHECK.due("byte " + b + " after '" + begin + "' belongs", stopsThere && !itemFault ? 1 : 0, 0);
            }
        }
    }

    // "(the length if it ends too early)"
    private static void endsTooEarly() {
        refused(4, "-", 1);
        refused(4, " -", 2);
        refused(4, "1:-", 3);
        refused(4, "1::-", 4);
        refused(4, "::-", 3);
        refused(4, "1,", 2);
        refused(4, "1, ", 3);
        refused(4, "1,   ", 5);
        refused(4, ":,", 2);
        refused(4, "*,", 2);
        refused(4, "*, ", 3);
        refused(4, "1,2,-", 5);
        refused(4, "1,2,1,", 6);
        refused(4, "0,0,0,0,", 8);
        taken(4, "1", "(3,3,3)");
        taken(4, "1:", "(2,3,3,3)");
        taken(4, "1::", "(2,3,3,3)");
        taken(3, "*", "(1,3,3,3)");
    }

    // "An empty text (or blanks alone) is the whole"
    private static void anEmptyTextIsTheWhole() {
        String[] whole = {"()", "(3)", "(3,3)", "(3,3,3)", "(3,3,3,3)"};
        for (int axes = 0; axes <= 4; axes++) {
            taken(axes, "", whole[axes]);
            taken(axes, " ", whole[axes]);
            taken(axes, " ".repeat(21), whole[axes]);
        }
        SliceViews x = threes(2);
        x.feed(0x20202020, 0x20202020, 0x20202020, 0x20202020, 0x20202020);
        CHECK.due("a tray of blanks", x.view(1), 2);
        CHECK.due("an empty tray", x.view(1), 3);
        x.feed(0x78787878, 0, 0, 0, 0);
        x.end(0);
        CHECK.due("a tray cut to nothing", x.view(1), 4);
        for (int g = 2; g <= 4; g++) {
            CHECK.dueText("the whole", Check.shown(x, g), "(3,3) 0 0 0 0 5 0 0 0 0");
            CHECK.due("its cells are the grid's", x.shares(g, 1), 1);
        }
    }

    // "a number: that place, the axis goes"
    private static void aPlaceTakesTheAxisAway() {
        taken(4, "1", "(3,3,3)");
        taken(4, "1,1", "(3,3)");
        taken(4, "1,1,1", "(3)");
        taken(4, "1,1,1,1", "()");
        SliceViews x = threes(4);
        Check.view(x, 1, "1,1,-2,-2");
        CHECK.due("the cell", x.get(2), 5);
        CHECK.due("an index for it", Check.get(x, 2, 0), 0);
        CHECK.due("is one too many", x.code(), 1);
    }

    // "a place that is not - n .. n - 1"
    private static void placesFromMinusNToNMinusOne() {
        for (int n : new int[] {0, 1, 2, 9, 10, 11, 4096}) {
            SliceViews x = new SliceViews();
            Check.grid(x, n, 1);
            Check.put(x, 1, 6, 0, 0);
            Check.put(x, 1, 7, n - 1, 0);
            int next = 2;
            if (n > 0) {
                CHECK.due("place -n of " + n, Check.view(x, 1, "-" + n), next++);
                CHECK.due("is the first", Check.get(x, 2, 0), n == 1 ? 7 : 6);
                CHECK.due("place n - 1 of " + n, Check.view(x, 1, " " + (n - 1)), next++);
                CHECK.due("is the last", Check.get(x, 3, 0), 7);
                CHECK.due("place -1 of " + n, Check.view(x, 1, "-1"), next++);
                CHECK.due("is the last", Check.get(x, 4, 0), 7);
                CHECK.due("place 0 of " + n, Check.view(x, 1, "0"), next++);
                CHECK.due("is the first", Check.get(x, 5, 0), n == 1 ? 7 : 6);
            }
            CHECK.due("place -n - 1 of " + n, Check.view(x, 1, " -" + (n + 1)), -20);
            CHECK.due("its place", x.place(), 1);
            CHECK.due("place n of " + n, Check.view(x, 1, "*, " + n), -20);
            CHECK.due("its place", x.place(), 3);
            CHECK.due("place 999999999 of " + n, Check.view(x, 1, "999999999"), -20);
            CHECK.due("place -999999999 of " + n, Check.view(x, 1, "-999999999"), -20);
            CHECK.due("its place", x.place(), 0);
            CHECK.due("no more views", x.cells(next), -14);
        }
    }

    // "*: a new axis of size 1 (for none of the axes)"
    private static void newAxesAreForNoAxis() {
        taken(0, "*", "(1)");
        taken(0, "*,*,*,*", "(1,1,1,1)");
        taken(2, "*", "(1,3,3)");
        taken(2, ":,*", "(3,1,3)");
        taken(2, ":,:,*", "(3,3,1)");
        taken(2, "*,0:2,*,0:1", "(1,2,1,1)");
        taken(4, "*,0", "(1,3,3,3)");
        taken(4, "0,*", "(1,3,3,3)");
        taken(4, "0,0,0,0,*,*,*,*", "(1,1,1,1)");
        refused(2, "**", 1);
        refused(2, "* *", 2);
        refused(2, "*1", 1);
        refused(2, "*:", 1);
        refused(2, "1*", 1);
        refused(2, ":*", 1);
        SliceViews x = threes(1);
        Check.view(x, 1, "*,:,*");
        CHECK.due("the cell at 0 of the new axes", Check.get(x, 2, 0, 1, 0), 5);
        CHECK.due("1 of a new axis", Check.get(x, 2, 1, 1, 0), 0);
        CHECK.due("is no spot", x.code(), 2);
        CHECK.due("put through new axes", Check.put(x, 2, 6, 0, 2, 0), 0);
        CHECK.dueText("shows", Check.shown(x, 1), "(3) 0 5 6");
    }

    // "more items than axes", at the first byte of the first item that has none
    private static void moreItemsThanAxes() {
        for (int axes = 0; axes <= 4; axes++) {
            String full = "0,".repeat(axes);
            if (axes > 0) {
                taken(axes, full.substring(0, full.length() - 1), "()");
            }
            taken(axes, full + "*", "(1)");
            refused(axes, full + "0", 2 * axes);
            refused(axes, full + ":", 2 * axes);
            refused(axes, full + "  :", 2 * axes + 2);
            refused(axes, full + "*,0", 2 * axes + 2);
            refused(axes, full + "0,0", 2 * axes);
            refused(axes, full + "::0", 2 * axes);
        }
        refused(0, "0", 0);
        refused(0, "-1", 0);
        refused(2, "*,:,*,:,:,*", 8);
    }

    // "a step 0"
    private static void stepZero() {
        taken(1, "::1", "(3)");
        taken(1, "::-1", "(3)");
        taken(1, "0:0:1", "(0)");
        taken(1, "0:0:-1", "(0)");
        refused(1, "::0", 0);
        refused(1, "::-0", 0);
        refused(1, "::000000000", 0);
        refused(1, "::-000000000", 0);
        refused(1, "0:0:0", 0);
        refused(1, "2:1:0", 0);
        refused(1, " : : 0 ", 1);
        refused(2, "0, 1:2:0", 3);
        refused(2, "*,::0", 2);
        SliceViews x = new SliceViews();
        Check.grid(x, 0);
        CHECK.due("step 0 where no cells are", Check.view(x, 1, "::0"), -20);
        CHECK.due("its place", x.place(), 0);
        CHECK.due("step 1 where no cells are", Check.view(x, 1, "::1"), 2);
    }

    // "at the text's length more than 4 axes"
    private static void moreThanFourAxes() {
        for (int axes = 0; axes <= 4; axes++) {
            String news = "*,".repeat(4 - axes);
            String[] sizes = {"(1,1,1,1)", "(1,1,1,3)", "(1,1,3,3)", "(1,3,3,3)", "(3,3,3,3)"};
            taken(axes, news.isEmpty() ? "" : news.substring(0, news.length() - 1), sizes[axes]);
            refused(axes, news + "*", news.length() + 1);
            refused(axes, news + "*  ", news.length() + 3);
            refused(axes, news + "*,*,*,*,*", news.length() + 9);
            if (axes > 0) {
                taken(axes, news + "*,1", sizes[axes - 1]);
                refused(axes, news + "*,1,*", news.length() + 5);
                refused(axes, news + "*,1:1", news.length() + 5);
            }
        }
        refused(4, ":,:,:,:,*", 9);
        refused(4, "*,0:0", 5);
        taken(4, ":,:,:,0,*", "(3,3,3,1)");
    }

    // "An item begins with its first byte that is no blank"
    private static void anItemBeginsBehindItsBlanks() {
        refused(2, "3", 0);
        refused(2, " 3", 1);
        refused(2, "   -4", 3);
        refused(2, "0,3", 2);
        refused(2, "0 ,  3  ", 5);
        refused(2, "  ::0", 2);
        refused(2, " 0 , 0 , 0", 9);
        refused(2, "0,0 ,   : ", 8);
    }

    private static void orderOfFaults() {
        // A byte that does not belong, or an end too early, comes before every item's fault.
        refused(1, "3,0,?", 4);
        refused(1, "::0,?", 4);
        refused(1, "0,0,", 4);
        refused(1, "3,", 2);
        refused(1, "3?", 1);
        refused(1, "::0:", 3);
        refused(1, "*,*,*,*,*,?", 10);
        refused(1, "*,*,*,*,*,", 10);
        // An item's fault comes before too many axes.
        refused(1, "*,*,*,*,3", 8);
        refused(1, "*,*,*,*,::0", 8);
        refused(1, "3,*,*,*,*,*", 0);
        refused(1, "*,*,*,*,:,:", 10);
        // Of several items with a fault the first.
        refused(2, "3,3", 0);
        refused(2, "::0,3", 0);
        refused(2, "3,::0", 0);
        refused(1, "3,0", 0);
        refused(1, "0,::0", 2);
        refused(2, "0,3,0", 2);
        refused(0, "0,0,0", 0);
        // Of several bytes the first.
        refused(1, "?!", 0);
        refused(1, "1?!", 1);
    }

    private static void bytesBeforeTheEndAlone() {
        SliceViews x = threes(1);
        x.feed(0x313F3F3F, 0x3F3F3F3F, 0x3F3F3F3F, 0x3F3F3F3F, 0x3F3F3F3F);
        CHECK.due("end before the bytes that do not belong", x.end(1), 1);
        CHECK.due("view", x.view(1), 2);
        x.feed(0x313F3F3F, 0x3F3F3F3F, 0x3F3F3F3F, 0x3F3F3F3F, 0x3F3F3F3F);
        CHECK.due("end behind the first of them", x.end(2), 2);
        CHECK.due("view", x.view(1), -20);
        CHECK.due("place", x.place(), 1);
        x.feed(0x20202020, 0x20202020, 0x20202020, 0x20202020, 0x2020203F);
        CHECK.due("all twenty bytes count without end()", x.view(1), -20);
        CHECK.due("place", x.place(), 19);
    }

    private static void aFaultLeavesTheState() {
        SliceViews x = threes(2);
        Check.view(x, 1, "1");
        String before = Check.all(x);
        String[] texts = {"?", "3", "::0", "0,0,0", "*,*,*", "0,", "1:1,3", "*,1,*,-4"};
        for (String text : texts) {
            x.axis(1);
            x.at(2);
            CHECK.due("view '" + text + "'", Check.view(x, 1, text), -20);
            CHECK.due("the sizes stay", x.axis(1), 2);
            CHECK.due("the spot stays", x.at(2), 2);
            CHECK.due("no grid to write to", x.put(3, 1), -14);
            CHECK.due("no grid to spread", x.spread(3), -14);
        }
        CHECK.dueText("all grids stay", Check.all(x), before);
        CHECK.due("the next number", Check.view(x, 1, "1,1"), 3);
        CHECK.due("nothing is left of the faults", x.get(3), 5);
    }

    // "The place of the fault of the latest view(); -1 if it had none, or there was none"
    private static void placeOfTheLatestView() {
        SliceViews x = threes(1);
        CHECK.due("there was none", x.place(), -1);
        CHECK.due("view", Check.view(x, 1, "0"), 2);
        CHECK.due("it had none", x.place(), -1);
        CHECK.due("view with a fault", Check.view(x, 1, "0?"), -20);
        CHECK.due("its place", x.place(), 1);
        CHECK.due("again", x.place(), 1);
        Check.feedText(x, "?");
        x.get(9);
        x.put(9, 9);
        Check.spread(x, 9, 9);
        Check.shaped(x, 9, 9);
        x.turned(9, 9, 9);
        x.turned(1, 0, 0);
        x.copy(1, 9);
        CHECK.due("other calls leave it", x.place(), 1);
        CHECK.due("a later fault", x.view(1), -20);
        CHECK.due("place", x.place(), 0);
        CHECK.due("a fault", Check.view(x, 1, "  ?"), -20);
        CHECK.due("place", x.place(), 2);
        CHECK.due("no such grid", Check.view(x, 9, "?"), -14);
        CHECK.due("had no fault", x.place(), -1);
        CHECK.due("a fault", Check.view(x, 1, "  3"), -20);
        CHECK.due("place", x.place(), 2);
        CHECK.due("the whole", x.view(1), 4);
        CHECK.due("had no fault", x.place(), -1);
    }
}
