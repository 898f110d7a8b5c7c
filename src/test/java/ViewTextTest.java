/** Promises 14 and 15: view texts, their meaning and the places of their faults. */
public final class ViewTextTest {
    private static final Check CHECK = new Check();

    public static void main(String[] args) {
        ranges();
        stepsBelowZero();
        places();
        newAxes();
        blanks();
        severalAxes();
        emptyAxes();
        viewsOfViews();
        bytesThatDoNotBelong();
        itemFaults();
        tooManyAxes();
        faultOrder();
        placeOfTheLatest();
        usedUp();
        longText();
        CHECK.end();
    }

    /** A row of five cells, 100 .. 104. */
    private static void row(String text, String want) {
        SliceViews x = new SliceViews();
        Check.counted(x, 5);
        CHECK.due("view " + text, Check.view(x, 1, text), 2);
        CHECK.due("place of " + text, x.place(), -1);
        CHECK.dueText("view " + text, Check.shown(x, 2), want);
    }

    private static void ranges() {
        row("", "(5) 100 101 102 103 104");
        row(":", "(5) 100 101 102 103 104");
        row("::", "(5) 100 101 102 103 104");
        row("1:", "(4) 101 102 103 104");
        row(":2", "(2) 100 101");
        row("1:3", "(2) 101 102");
        row("1:3:", "(2) 101 102");
        row("-2:", "(2) 103 104");
        row(":-2", "(3) 100 101 102");
        row("-0:", "(5) 100 101 102 103 104");
        row(":-0", "(0)");
        row("-9:9", "(5) 100 101 102 103 104");
        row("-999999999:999999999", "(5) 100 101 102 103 104");
        row("5:", "(0)");
        row("9:", "(0)");
        row("3:1", "(0)");
        row("2:2", "(0)");
        row("2:2:3", "(0)");
        row(":-5", "(0)");
        row(":-6", "(0)");
        row("::2", "(3) 100 102 104");
        row("1::2", "(2) 101 103");
        row(":4:2", "(2) 100 102");
        row("::4", "(2) 100 104");
        row("::5", "(1) 100");
        row("3::999999999", "(1) 103");
        row("000000003:000000005:000000001", "(2) 103 104");
    }

    private static void stepsBelowZero() {
        row("::-1", "(5) 104 103 102 101 100");
        row("::-2", "(3) 104 102 100");
        row("3::-2", "(2) 103 101");
        row("3:0:-1", "(3) 103 102 101");
        row(":1:-1", "(3) 104 103 102");
        row(":-1:-1", "(0)");
        row(":-3:-1", "(2) 104 103");
        row("-2::-1", "(4) 103 102 101 100");
        row("9::-1", "(5) 104 103 102 101 100");
        row(":-5:-1", "(4) 104 103 102 101");
        row(":-6:-1", "(5) 104 103 102 101 100");
        row(":-999999999:-1", "(5) 104 103 102 101 100");
        row("-6::-1", "(0)");
        row("0::-1", "(1) 100");
        row("0:4:-1", "(0)");
        row("4:4:-1", "(0)");
        row("2:2:-3", "(0)");
        row("9:5:-1", "(0)");
        row("9:3:-1", "(1) 104");
        row("::-999999999", "(1) 104");
        row("::-4", "(2) 104 100");
    }

    private static void places() {
        row("0", "() 100");
        row("4", "() 104");
        row("-1", "() 104");
        row("-5", "() 100");
        row("-0", "() 100");
        row("000000004", "() 104");
        row("-000000004", "() 101");
    }

    private static void newAxes() {
        row("*", "(1,5) 100 101 102 103 104");
        row("*,1:3", "(1,2) 101 102");
        row("1:3,*", "(2,1) 101 102");
        row("*,2,*", "(1,1) 102");
        row("*,*,*", "(1,1,1,5) 100 101 102 103 104");
        row("2,*,*,*,*", "(1,1,1,1) 102");
    }

    private static void blanks() {
        row("   ", "(5) 100 101 102 103 104");
        row("  1  :  3  ", "(2) 101 102");
        row(" * , -1 ", "(1) 104");
        row(" : : -2 ", "(3) 104 102 100");
        row(" 2 ", "() 102");
    }

    private static void severalAxes() {
        SliceViews x = new SliceViews();
        Check.grid(x, 2, 3, 2);
        for (int n = 0; n < 12; n++) {
            Check.put(x, 1, n, n / 6, n / 2 % 3, n % 2);
        }
        Check.view(x, 1, "1");
        CHECK.dueText("1", Check.shown(x, 2), "(3,2) 6 7 8 9 10 11");
        Check.view(x, 1, ":,1");
        CHECK.dueText(":,1", Check.shown(x, 3), "(2,2) 2 3 8 9");
        Check.view(x, 1, "::-1,::2,1");
        CHECK.dueText("::-1,::2,1", Check.shown(x, 4), "(2,2) 7 11 1 5");
        Check.view(x, 1, "0,*,-1");
        CHECK.dueText("0,*,-1", Check.shown(x, 5), "(1,2) 4 5");
        Check.view(x, 1, "1,2,0");
        CHECK.dueText("1,2,0", Check.shown(x, 6), "() 10");
        CHECK.due("put through a view", x.put(6, 77), 0);
        CHECK.due("shows in the grid", x.cell(1, 10), 77);
        CHECK.due("and in another view", x.cell(5, 0), 4);
        CHECK.due("and in another view", x.cell(2, 4), 77);
        Check.put(x, 1, 78, 1, 1, 1);
        CHECK.due("put into the grid shows in the view", x.cell(2, 3), 78);
    }

    private static void emptyAxes() {
        SliceViews x = new SliceViews();
        Check.grid(x, 0, 3);
        CHECK.due(":", Check.view(x, 1, ":"), 2);
        CHECK.due("::-1", Check.view(x, 1, "::-1"), 3);
        CHECK.due(":,2", Check.view(x, 1, ":,2"), 4);
        CHECK.dueText("::-1", Check.shown(x, 3), "(0,3)");
        CHECK.dueText(":,2", Check.shown(x, 4), "(0)");
        CHECK.due("0 of none", Check.view(x, 1, "0"), -20);
        CHECK.due("its place", x.place(), 0);
        CHECK.due("-1 of none", Check.view(x, 1, "-1"), -20);
        Check.grid(x);
        CHECK.due("the whole of no axes", Check.view(x, 5, " "), 6);
        CHECK.due("axes", x.axes(6), 0);
    }

    private static void viewsOfViews() {
        SliceViews x = new SliceViews();
        Check.counted(x, 10);
        Check.view(x, 1, "1::2");
        Check.view(x, 2, "::-2");
        CHECK.dueText("::-2 of 1::2", Check.shown(x, 3), "(3) 109 105 101");
        Check.view(x, 3, "1:,*");
        CHECK.dueText("1:,* of that", Check.shown(x, 4), "(2,1) 105 101");
        Check.view(x, 4, "1,0");
        CHECK.due("put through four", x.put(5, 9), 0);
        CHECK.due("shows in the grid", x.cell(1, 1), 9);
        Check.view(x, 1, "7:7");
        Check.view(x, 6, "::-1");
        CHECK.dueText("a view of nothing", Check.shown(x, 7), "(0)");
    }

    private static void fault(SliceViews x, int g, String text, int place) {
        CHECK.due("view of '" + text + "'", Check.view(x, g, text), -20);
        CHECK.due("place of '" + text + "'", x.place(), place);
    }

    private static void bytesThatDoNotBelong() {
        SliceViews x = new SliceViews();
        Check.grid(x, 5, 5, 5, 5);
        fault(x, 1, ",", 0);
        fault(x, 1, " ,", 1);
        fault(x, 1, "1,", 2);
        fault(x, 1, "1, ", 3);
        fault(x, 1, "1,,2", 2);
        fault(x, 1, "*,", 2);
        fault(x, 1, "-", 1);
        fault(x, 1, "- 1", 1);
        fault(x, 1, "--1", 1);
        fault(x, 1, "+1", 0);
        fault(x, 1, "1 2", 2);
        fault(x, 1, "1-2", 1);
        fault(x, 1, "1:-", 3);
        fault(x, 1, "1:-:2", 3);
        fault(x, 1, "1:2 3", 4);
        fault(x, 1, "1:2:3:", 5);
        fault(x, 1, ":::", 2);
        fault(x, 1, "1:2:3 4", 6);
        fault(x, 1, "**", 1);
        fault(x, 1, "*:", 1);
        fault(x, 1, "* 1", 2);
        fault(x, 1, ":*", 1);
        fault(x, 1, "1*", 1);
        fault(x, 1, "1234567890", 9);
        fault(x, 1, "-1234567890", 10);
        fault(x, 1, "0000000000", 9);
        fault(x, 1, "1:0000000000", 11);
        fault(x, 1, "1\t", 1);
        fault(x, 1, "\n", 0);
        fault(x, 1, "1\0", 1);
        fault(x, 1, "x", 0);
        fault(x, 1, "1/", 1);
        fault(x, 1, "1:;", 2);
        fault(x, 1, "\u00b1", 0);
    }

    private static void itemFaults() {
        SliceViews x = new SliceViews();
        Check.grid(x, 4, 3);
        fault(x, 1, "4", 0);
        fault(x, 1, "-5", 0);
        fault(x, 1, "  999999999", 2);
        fault(x, 1, "0,3", 2);
        fault(x, 1, "0, -4", 3);
        fault(x, 1, "::0", 0);
        fault(x, 1, "::-0", 0);
        fault(x, 1, "1, 2 : : 000", 3);
        fault(x, 1, "0,0,0", 4);
        fault(x, 1, ":,:,:", 4);
        fault(x, 1, "*,0,*,0,*, :", 11);
        Check.grid(x);
        fault(x, 2, "0", 0);
        fault(x, 2, " *, :", 4);
    }

    private static void tooManyAxes() {
        SliceViews x = new SliceViews();
        Check.grid(x, 4, 3);
        fault(x, 1, "*,*,*", 5);
        fault(x, 1, "*,*,* ", 6);
        fault(x, 1, "*,:,*,:,*", 9);
        CHECK.due("two new ones", Check.view(x, 1, "*,*"), 2);
        CHECK.due("three new ones, a place", Check.view(x, 1, "*,*,*,1"), 3);
        CHECK.due("four new ones, two places", Check.view(x, 1, "*,1,*,1,*,*"), 4);
        fault(x, 1, "*,*,*,1,*", 9);
    }

    private static void faultOrder() {
        SliceViews x = new SliceViews();
        Check.grid(x, 4);
        fault(x, 1, "9,x", 2);
        fault(x, 1, "9,0,", 4);
        fault(x, 1, "::0,0", 0);
        fault(x, 1, "9,0", 0);
        fault(x, 1, "0,0,9", 2);
        fault(x, 1, "*,*,*,*,9", 8);
        fault(x, 1, "*,*,*,*,:,0", 10);
        fault(x, 1, "*,*,*,*,:,", 10);
        CHECK.due("no grid comes before a fault", Check.view(x, 2, "x"), -14);
    }

    private static void placeOfTheLatest() {
        SliceViews x = new SliceViews();
        CHECK.due("no view yet", x.place(), -1);
        Check.grid(x, 4);
        fault(x, 1, "0x", 1);
        x.cell(1, 0);
        x.turned(1, 0, 0);
        CHECK.due("other calls leave the place", x.place(), 1);
        CHECK.due("a view without a fault", Check.view(x, 1, "0"), 3);
        CHECK.due("has no place", x.place(), -1);
        fault(x, 1, "0x", 1);
        CHECK.due("a view of no grid", Check.view(x, 9, "0x"), -14);
        CHECK.due("has no place", x.place(), -1);
    }

    private static void usedUp() {
        SliceViews x = new SliceViews();
        Check.grid(x, 4);
        Check.view(x, 1, "0");
        CHECK.due("a view uses the tray up", x.end(1), -1);
        Check.view(x, 1, "x");
        CHECK.due("with a fault too", x.end(1), -1);
        Check.view(x, 9, "x");
        CHECK.due("without a grid too", x.end(1), -1);
        CHECK.due("then the whole", x.view(1), 3);
        CHECK.due("axes", x.size(3, 0), 4);
    }

    private static void longText() {
        longFault("*,".repeat(2000), 4000);
        longFault("*,".repeat(2000) + "*", 4001);
        longFault("0,".repeat(2000) + "0", 2);
        SliceViews x = new SliceViews();
        Check.grid(x, 4);
        CHECK.due("many blanks", Check.view(x, 1, " ".repeat(3000) + "1:" + " ".repeat(3000) + "3"), 2);
        CHECK.due("size", x.size(2, 0), 2);
    }

    /** On an object of its own, since each such text takes some two hundred of its 512 calls. */
    private static void longFault(String text, int place) {
        SliceViews x = new SliceViews();
        Check.grid(x, 4);
        fault(x, 1, text, place);
    }
}
