/**
 * Every promise, for calls in any order and with any arguments, up to the 512th call on an object: runs of calls
 * against the model, in which every answer is compared. The runs differ in what they reach.
 */
public final class ModelTest {
    private static final Check CHECK = new Check();
    private static final int ANY_RUNS = 2500;
    private static final int MIXED_RUNS = 2500;
    private static final int FULL_RUNS = 150;
    private static final int LARGE_RUNS = 60;
    private static final int[] EDGES = {
        Integer.MIN_VALUE, Integer.MIN_VALUE + 1, -100001, -4097, -4096, -401, -400, -5, -4, -2, -1, 0, 1, 2, 3, 4, 5,
        19, 20, 21, 399, 400, 401, 4095, 4096, 4097, 15999, 16000, 16001, 65536, 99999, 100000, 100001,
        Integer.MAX_VALUE - 1, Integer.MAX_VALUE};
    private static final int[] LARGE_SIZES = {0, 1, 1, 2, 5, 10, 25, 64, 100, 250, 316, 317, 400, 1000, 2048, 4095, 4096};
    private static final String LOOSE_BYTES = "0123456789::::--,,,,**  ";
    private static final String[] PIECES = {
        "0", "1", "-1", "2", "-2", "3", "-4", "7", ":", ":", ":", "::", "::-1", "::2", "1:", ":2", "-2:", ":-1",
        "3:0:-1", "::-2", "*", "*", "1::2", "::0", "-1:-9:-2", "5:1", " ", "", "x", "1:2:3:4", "--1", "1234567890",
        "000000001", "-0", "999999999:", ":-999999999:-1", "::999999999", "::-999999999", " 1 : : -1 ", "- 1", "1 1"};

    private final Dice dice;
    private final Pair pair;

    private ModelTest(String kind, int number) {
        dice = new Dice(number + kind.length() * 100000L);
        pair = new Pair(CHECK, kind + " run " + number);
    }

    public static void main(String[] args) {
        for (int n = 1; n <= ANY_RUNS; n++) {
            new ModelTest("any", n).anyRun();
        }
        for (int n = 1; n <= MIXED_RUNS; n++) {
            new ModelTest("mixed", n).mixedRun();
        }
        for (int n = 1; n <= FULL_RUNS; n++) {
            new ModelTest("full", n).fullRun();
        }
        for (int n = 1; n <= LARGE_RUNS; n++) {
            new ModelTest("large", n).largeRun();
        }
        CHECK.end();
    }

    /** Calls without a plan, so that what is collected meets every other call. */
    private void anyRun() {
        int wildness = 2 + dice.below(12);
        while (pair.callsLeft() > 0) {
            anyCall(wildness);
        }
    }

    /** Whole uses of the class (collect, then call) with loose calls between, and then a look at all grids. */
    private void mixedRun() {
        int look = 50 + dice.below(250);
        while (pair.callsLeft() > look) {
            if (dice.oneIn(6)) {
                anyCall(8);
            } else {
                plannedUse();
            }
        }
        lookAround();
    }

    /** Most calls make a grid or a view, so that the 400th comes while calls are left to be refused. */
    private void fullRun() {
        pair.axis(2);
        pair.axis(1);
        pair.axis(3);
        pair.grid();
        while (pair.callsLeft() > 12) {
            if (pair.model.gridCount() < 400 && !dice.oneIn(15)) {
                makeOneMore();
            } else if (dice.oneIn(2)) {
                anyCall(6);
            } else {
                plannedUse();
            }
        }
        lookAround();
    }

    private void makeOneMore() {
        int g = 1 + dice.below(pair.model.gridCount());
        switch (dice.below(6)) {
            case 0 -> pair.turned(1, dice.below(3), dice.below(3));
            case 1 -> pair.grid();
            default -> pair.view(g);
        }
    }

    /** Grids near and beyond 100000 cells in all, and spread views near and beyond 100000. */
    private void largeRun() {
        while (pair.callsLeft() > 12 && pair.model.gridCount() < 60) {
            switch (dice.below(8)) {
                case 0, 1 -> {
                    collectSizes(LARGE_SIZES);
                    pair.grid();
                }
                case 2, 3 -> spreadWide(someGrid(20), LARGE_SIZES);
                case 4 -> shapedAlike(someGrid(20));
                default -> plannedUse();
            }
        }
        lookAround();
    }

    private void lookAround() {
        while (pair.callsLeft() > 0) {
            int g = someGrid(30);
            switch (dice.below(6)) {
                case 0 -> pair.axes(g);
                case 1 -> pair.size(g, dice.below(6) - 1);
                case 2 -> pair.cells(g);
                case 3 -> pair.shares(g, someGrid(30));
                default -> pair.cell(g, dice.below(Math.max(1, cellCount(g)) + 1));
            }
        }
    }

    private int someGrid(int wildness) {
        return dice.oneIn(wildness) ? any() : 1 + dice.below(pair.model.gridCount() + 1);
    }

    private int any() {
        return dice.oneIn(9) ? dice.anyInt() : dice.oneIn(2) ? dice.oneOf(EDGES) : dice.below(30) - 2;
    }

    private int smallOrAny(int wildness, int from, int bound) {
        return dice.oneIn(wildness) ? any() : from + dice.below(bound);
    }

    private int cellCount(int g) {
        return Math.max(0, pair.model.cells(g));
    }

    private void anyCall(int wildness) {
        switch (dice.below(23)) {
            case 0, 1 -> feedLoose();
            case 2, 3 -> pair.end(smallOrAny(wildness, 0, 9));
            case 4, 5 -> pair.axis(smallOrAny(wildness, 0, 5));
            case 6, 7 -> pair.at(smallOrAny(wildness, -1, 5));
            case 8 -> pair.grid();
            case 9 -> pair.put(someGrid(wildness), dice.anyInt() * 4294967297L);
            case 10 -> pair.get(someGrid(wildness));
            case 11 -> pair.cell(someGrid(wildness), smallOrAny(wildness, 0, 12));
            case 12 -> pair.code();
            case 13 -> pair.axes(someGrid(wildness));
            case 14 -> pair.size(someGrid(wildness), smallOrAny(wildness, -1, 6));
            case 15 -> pair.cells(someGrid(wildness));
            case 16 -> pair.view(someGrid(wildness));
            case 17 -> pair.place();
            case 18 -> pair.turned(someGrid(wildness), smallOrAny(wildness, 0, 3), smallOrAny(wildness, 0, 3));
            case 19 -> pair.spread(someGrid(wildness));
            case 20 -> pair.shaped(someGrid(wildness));
            case 21 -> pair.copy(someGrid(wildness), someGrid(wildness));
            default -> pair.shares(someGrid(wildness), someGrid(wildness));
        }
    }

    private void feedLoose() {
        if (dice.oneIn(3)) {
            feedPart(text());
        } else {
            pair.feed(fourBytes(), fourBytes(), fourBytes(), fourBytes(), fourBytes());
        }
    }

    private int fourBytes() {
        int packed = 0;
        for (int i = 0; i < 4; i++) {
            packed = packed << 8 | (dice.oneIn(100) ? dice.below(256) : LOOSE_BYTES.charAt(dice.below(LOOSE_BYTES.length())));
        }
        return packed;
    }

    private void feedPart(String text) {
        int[] five = new int[5];
        for (int i = 0; i < 20; i++) {
            five[i / 4] = five[i / 4] << 8 | (i < text.length() ? text.charAt(i) : ' ');
        }
        pair.feed(five[0], five[1], five[2], five[3], five[4]);
    }

    private void plannedUse() {
        int kind = pair.model.gridCount() < 2 ? 0 : dice.below(15);
        int g = someGrid(20);
        switch (kind) {
            case 0 -> {
                collectSizes(0, 1, 1, 2, 3, 4, 5);
                pair.grid();
            }
            case 1, 2, 3 -> putAndGet(g);
            case 4, 5, 6, 7 -> viewByText(g);
            case 8 -> pair.turned(g, dice.below(5), dice.below(3));
            case 9, 10 -> spreadWide(g, 0, 1, 2, 3);
            case 11 -> shapedAlike(g);
            case 12, 13 -> pair.copy(g, dice.oneIn(2) ? someGrid(20) : sameSized(g));
            default -> pair.shares(g, someGrid(20));
        }
    }

    private void collectSizes(int... from) {
        for (int n = dice.below(5); n > 0; n--) {
            pair.axis(dice.oneOf(from));
        }
    }

    private void spreadWide(int g, int... from) {
        widenedSizes(g, from);
        pair.spread(g);
    }

    /** Sizes to which g can mostly be spread, with axes added in front and ones made larger. */
    private void widenedSizes(int g, int... from) {
        int[] sizes = pair.model.sizesOf(g);
        if (sizes == null || dice.oneIn(6)) {
            collectSizes(from);
            return;
        }
        for (int n = dice.below(5 - sizes.length); n > 0; n--) {
            pair.axis(dice.oneOf(from));
        }
        for (int size : sizes) {
            pair.axis(size == 1 && dice.oneIn(2) || dice.oneIn(25) ? dice.oneOf(from) : size);
        }
    }

    private void shapedAlike(int g) {
        int count = cellCount(g);
        int first = dice.oneOf(1, 1, 2, 3, 4, 10, 25);
        if (dice.oneIn(6)) {
            collectSizes(0, 1, 2, 3, 4);
        } else if (count % first == 0 && count / first <= 4096) {
            pair.axis(first);
            pair.axis(count / first);
        } else {
            pair.axis(Math.min(4096, count));
        }
        pair.shaped(g);
    }

    private int sameSized(int g) {
        int[] sizes = pair.model.sizesOf(g);
        int count = pair.model.gridCount();
        int from = dice.below(count);
        for (int n = 0; n < count; n++) {
            int h = 1 + (from + n) % count;
            if (h != g && java.util.Arrays.equals(sizes, pair.model.sizesOf(h))) {
                return h;
            }
        }
        return g;
    }

    private void putAndGet(int g) {
        int[] sizes = pair.model.sizesOf(g);
        int indexes = sizes == null || dice.oneIn(10) ? dice.below(5) : sizes.length;
        for (int a = 0; a < indexes; a++) {
            int size = sizes == null || a >= sizes.length ? 3 : sizes[a];
            pair.at(dice.oneIn(15) ? dice.oneOf(-1, size, size + 1, -size) : dice.below(Math.max(1, size)));
        }
        if (dice.oneIn(3)) {
            pair.get(g);
            pair.code();
        } else {
            pair.put(g, dice.below(1000000));
        }
    }

    private void viewByText(int g) {
        String text = text();
        pair.end(0);
        for (int from = 0; from < text.length(); from += 20) {
            feedPart(text.substring(from));
        }
        pair.end(text.length());
        pair.view(g);
        if (dice.oneIn(2)) {
            pair.place();
        }
    }

    private String text() {
        StringBuilder out = new StringBuilder();
        for (int n = dice.below(5); n > 0; n--) {
            out.append(PIECES[dice.below(dice.oneIn(3) ? PIECES.length : 22)]).append(n > 1 ? "," : "");
        }
        if (dice.oneIn(5) && out.length() > 0) {
            out.insert(dice.below(out.length()), " ");
        }
        if (dice.oneIn(25) && out.length() > 0) {
            out.setCharAt(dice.below(out.length()), (char) dice.below(256));
        }
        return out.toString();
    }
}
