import java.util.Arrays;

/** Grids of numbers and views that share their cells; the document's promises say what each call answers. */
public final class SliceViews {
    private static final int MAX_GRIDS = 400;
    private static final int MAX_AXES = 4;
    private static final int MAX_SIZE = 4096;
    private static final int MAX_CELLS = 100000;
    private static final int MAX_TRAY = 16000;
    private static final int MAX_FED = 65536;
    private static final int BYTES_A_FEED = 20;

    private static final int REFUSED = -1;
    private static final int OTHER_INDEXES = -1;
    private static final int NO_SPOT = -2;
    private static final int OTHER_SIZES = -3;
    private static final int IS_SPREAD = -5;
    private static final int NO_ROOM = -12;
    private static final int NO_GRID = -14;
    private static final int FAULT = -20;
    private static final int NOWHERE = -1;

    private final Collected sizes = new Collected();
    private final Collected spot = new Collected();
    private final Grid[] grids = new Grid[MAX_GRIDS];
    private final Walk walk = new Walk();
    private final ItemReader reader = new ItemReader();
    private final Cut cut = new Cut();
    private byte[] tray = new byte[BYTES_A_FEED];
    private int trayLength = 0;
    private int fedInAll = 0;
    private int gridCount = 0;
    private int cellsMade = 0;
    private int readCode = 0;
    private int faultPlace = NOWHERE;
    // Kept from call to call, since a row for each call would fill the room.
    private long[] scratch = new long[0];

    public SliceViews() {
    }

    public int feed(int a, int b, int c, int d, int e) {
        if (trayLength > MAX_TRAY - BYTES_A_FEED || fedInAll > MAX_FED - BYTES_A_FEED) {
            return REFUSED;
        }
        growTray(trayLength + BYTES_A_FEED);
        addToTray(a);
        addToTray(b);
        addToTray(c);
        addToTray(d);
        addToTray(e);
        fedInAll += BYTES_A_FEED;
        return trayLength;
    }

    public int end(int n) {
        if (n < 0 || n > trayLength) {
            return REFUSED;
        }
        trayLength = n;
        return n;
    }

    public int axis(int n) {
        return n < 0 || n > MAX_SIZE ? REFUSED : sizes.collect(n);
    }

    public int at(int i) {
        return spot.collect(i);
    }

    public int grid() {
        int[] told = sizes.takeAll();
        long count = product(told);
        return hasRoomFor(count) ? keep(madeGrid(told, (int) count)) : NO_ROOM;
    }

    public int put(int g, long v) {
        int[] indexes = spot.takeAll();
        Grid grid = find(g);
        if (grid == null) {
            return NO_GRID;
        }
        if (indexes.length != grid.sizes.length) {
            return OTHER_INDEXES;
        }
        if (grid.spread) {
            return IS_SPREAD;
        }
        int place = grid.placeOfSpot(indexes);
        if (place == NOWHERE) {
            return NO_SPOT;
        }
        grid.write(place, v);
        return 0;
    }

    public long get(int g) {
        int[] indexes = spot.takeAll();
        Grid grid = find(g);
        if (grid == null) {
            return unread(NO_GRID);
        }
        if (indexes.length != grid.sizes.length) {
            return unread(OTHER_INDEXES);
        }
        return readAt(grid, grid.placeOfSpot(indexes));
    }

    public long cell(int g, int n) {
        Grid grid = find(g);
        if (grid == null) {
            return unread(NO_GRID);
        }
        return readAt(grid, grid.placeOfNumber(n));
    }

    public int code() {
        return readCode;
    }

    public int axes(int g) {
        Grid grid = find(g);
        return grid == null ? NO_GRID : grid.sizes.length;
    }

    public int size(int g, int axis) {
        Grid grid = find(g);
        if (grid == null) {
            return NO_GRID;
        }
        return grid.hasAxis(axis) ? grid.sizes[axis] : NO_SPOT;
    }

    public int cells(int g) {
        Grid grid = find(g);
        return grid == null ? NO_GRID : grid.count;
    }

    public int view(int g) {
        int length = trayLength;
        trayLength = 0;
        faultPlace = NOWHERE;
        Grid source = find(g);
        if (source == null) {
            return NO_GRID;
        }
        faultPlace = cutByText(source, length);
        if (faultPlace != NOWHERE) {
            return FAULT;
        }
        return gridCount < MAX_GRIDS ? keep(cut.result()) : NO_ROOM;
    }

    public int place() {
        return faultPlace;
    }

    public int turned(int g, int a, int b) {
        Grid source = find(g);
        if (source == null) {
            return NO_GRID;
        }
        if (!source.hasAxis(a) || !source.hasAxis(b)) {
            return NO_SPOT;
        }
        if (gridCount >= MAX_GRIDS) {
            return NO_ROOM;
        }
        int[] newSizes = exchanged(source.sizes, a, b);
        int[] newSteps = exchanged(source.steps, a, b);
        return keep(source.viewOf(source.start, newSizes, newSteps, source.spread));
    }

    public int spread(int g) {
        int[] told = sizes.takeAll();
        Grid source = find(g);
        if (source == null) {
            return NO_GRID;
        }
        if (!source.canSpreadTo(told)) {
            return OTHER_SIZES;
        }
        if (gridCount >= MAX_GRIDS || product(told) > MAX_CELLS) {
            return NO_ROOM;
        }
        return keep(source.viewOf(source.start, told, source.stepsSpreadTo(told), true));
    }

    public int shaped(int g) {
        int[] told = sizes.takeAll();
        Grid source = find(g);
        if (source == null) {
            return NO_GRID;
        }
        if (product(told) != source.count) {
            return OTHER_SIZES;
        }
        if (!hasRoomFor(source.count)) {
            return NO_ROOM;
        }
        Grid made = madeGrid(told, source.count);
        gather(source, made.row);
        return keep(made);
    }

    public int copy(int g, int h) {
        Grid source = find(g);
        Grid target = find(h);
        if (source == null || target == null) {
            return NO_GRID;
        }
        if (target.spread) {
            return IS_SPREAD;
        }
        if (!source.hasSizesOf(target)) {
            return OTHER_SIZES;
        }
        growScratch(source.count);
        gather(source, scratch);
        scatter(scratch, target);
        return 0;
    }

    public int shares(int g, int h) {
        Grid one = find(g);
        Grid other = find(h);
        if (one == null || other == null) {
            return NO_GRID;
        }
        if (one.home != other.home) {
            return 0;
        }
        growScratch(one.row.length);
        Arrays.fill(scratch, 0L);
        markCells(one, scratch);
        return meetsMark(other, scratch) ? 1 : 0;
    }

    private void growTray(int needed) {
        if (needed > tray.length) {
            tray = Arrays.copyOf(tray, Math.min(MAX_TRAY, Math.max(needed, 2 * tray.length)));
        }
    }

    private void addToTray(int four) {
        for (int shift = 24; shift >= 0; shift -= 8) {
            if (trayLength < tray.length) {
                tray[trayLength] = (byte) (four >> shift);
                trayLength++;
            }
        }
    }

    private void growScratch(int needed) {
        if (needed > scratch.length) {
            scratch = new long[Math.min(MAX_CELLS, Math.max(needed, 2 * scratch.length))];
        }
    }

    private Grid find(int g) {
        return g >= 1 && g <= gridCount && g <= grids.length ? grids[g - 1] : null;
    }

    private boolean hasRoomFor(long count) {
        return gridCount < MAX_GRIDS && count >= 0 && count <= MAX_CELLS - cellsMade;
    }

    /** Makes a grid with cells of its own; the caller has asked hasRoomFor(count). */
    private Grid madeGrid(int[] newSizes, int count) {
        cellsMade += count;
        return new Grid(gridCount + 1, new long[Math.max(0, count)], 0, newSizes, rowSteps(newSizes, count), false);
    }

    /** Numbers a new grid; the caller has seen that there is a number left. */
    private int keep(Grid grid) {
        if (gridCount >= grids.length) {
            return NO_ROOM;
        }
        grids[gridCount] = grid;
        gridCount++;
        return gridCount;
    }

    private long unread(int refusal) {
        readCode = -refusal;
        return 0;
    }

    private long readAt(Grid grid, int place) {
        if (place == NOWHERE) {
            return unread(NO_SPOT);
        }
        readCode = 0;
        return grid.read(place);
    }

    /** Reads the tray's text into cut: the place of its fault, or NOWHERE. */
    private int cutByText(Grid source, int length) {
        reader.open(tray, length);
        cut.open(source);
        int badItem = NOWHERE;
        boolean more = !reader.isAtEnd();
        for (int n = 0; more && n < length; n++) {
            more = reader.readItem();
            if (reader.fault != NOWHERE) {
                return reader.fault;
            }
            // A byte that does not belong counts before any item's fault, so the reading goes on.
            if (!cut.takeItem(reader) && badItem == NOWHERE) {
                badItem = reader.begin;
            }
        }
        if (badItem != NOWHERE) {
            return badItem;
        }
        cut.takeRest();
        return cut.axisCount > MAX_AXES ? length : NOWHERE;
    }

    private void gather(Grid source, long[] into) {
        walk.open(source);
        for (int n = 0; n < source.count && n < into.length; n++) {
            into[n] = source.read(walk.place);
            walk.goOn();
        }
    }

    private void scatter(long[] from, Grid target) {
        walk.open(target);
        for (int n = 0; n < target.count && n < from.length; n++) {
            target.write(walk.place, from[n]);
            walk.goOn();
        }
    }

    private void markCells(Grid grid, long[] marks) {
        walk.open(grid);
        for (int n = 0; n < grid.count; n++) {
            if (walk.place >= 0 && walk.place < marks.length) {
                marks[walk.place] = 1;
            }
            walk.goOn();
        }
    }

    private boolean meetsMark(Grid grid, long[] marks) {
        walk.open(grid);
        for (int n = 0; n < grid.count; n++) {
            if (walk.place >= 0 && walk.place < marks.length && marks[walk.place] == 1) {
                return true;
            }
            walk.goOn();
        }
        return false;
    }

    /** How many cells a grid of these sizes has: a long, since four sizes of 4096 go beyond an int. */
    private static long product(int[] sizes) {
        long count = 1;
        for (int size : sizes) {
            count *= size;
        }
        return count;
    }

    private static int[] rowSteps(int[] sizes, int count) {
        int[] steps = new int[sizes.length];
        // Without cells no step is ever taken, and the other sizes' product may go beyond an int.
        int step = count > 0 ? 1 : 0;
        for (int a = sizes.length - 1; a >= 0; a--) {
            steps[a] = step;
            step *= sizes[a];
        }
        return steps;
    }

    private static int[] exchanged(int[] row, int a, int b) {
        int[] changed = row.clone();
        if (a >= 0 && a < row.length && b >= 0 && b < row.length) {
            changed[a] = row[b];
            changed[b] = row[a];
        }
        return changed;
    }

    /** The sizes or the indexes that the next call which needs them takes. */
    private static final class Collected {
        private final int[] values = new int[MAX_AXES];
        private int count = 0;

        int collect(int value) {
            if (count >= values.length) {
                return REFUSED;
            }
            values[count] = value;
            count++;
            return count;
        }

        int[] takeAll() {
            int[] taken = Arrays.copyOf(values, count);
            count = 0;
            return taken;
        }
    }

    /** A made grid or a view: where in a row of cells it starts, and how far apart an axis's places are. */
    private static final class Grid {
        /** The number of the made grid that owns the row: grids with one home have one row. */
        final int home;
        final long[] row;
        final int start;
        final int[] sizes;
        final int[] steps;
        final boolean spread;
        final int count;

        Grid(int home, long[] row, int start, int[] sizes, int[] steps, boolean spread) {
            this.home = home;
            this.row = row;
            this.start = start;
            this.sizes = sizes;
            this.steps = steps;
            this.spread = spread;
            this.count = (int) product(sizes);
        }

        Grid viewOf(int newStart, int[] newSizes, int[] newSteps, boolean newSpread) {
            return new Grid(home, row, newStart, newSizes, newSteps, newSpread);
        }

        boolean hasAxis(int a) {
            return a >= 0 && a < sizes.length;
        }

        long read(int place) {
            return place >= 0 && place < row.length ? row[place] : 0;
        }

        void write(int place, long v) {
            if (place >= 0 && place < row.length) {
                row[place] = v;
            }
        }

        int placeOfSpot(int[] indexes) {
            int place = start;
            for (int a = 0; a < sizes.length && a < indexes.length; a++) {
                if (indexes[a] < 0 || indexes[a] >= sizes[a]) {
                    return NOWHERE;
                }
                place += indexes[a] * steps[a];
            }
            return place;
        }

        int placeOfNumber(int n) {
            if (n < 0 || n >= count) {
                return NOWHERE;
            }
            int place = start;
            int left = n;
            for (int a = sizes.length - 1; a >= 0; a--) {
                if (sizes[a] > 0) {
                    place += left % sizes[a] * steps[a];
                    left /= sizes[a];
                }
            }
            return place;
        }

        boolean hasSizesOf(Grid other) {
            if (sizes.length != other.sizes.length) {
                return false;
            }
            for (int a = 0; a < sizes.length; a++) {
                if (sizes[a] != other.sizes[a]) {
                    return false;
                }
            }
            return true;
        }

        boolean canSpreadTo(int[] newSizes) {
            int added = newSizes.length - sizes.length;
            if (added < 0) {
                return false;
            }
            for (int a = 0; a < sizes.length; a++) {
                if (sizes[a] != 1 && sizes[a] != newSizes[a + added]) {
                    return false;
                }
            }
            return true;
        }

        /** The steps of a spread view; the caller has asked canSpreadTo(newSizes). */
        int[] stepsSpreadTo(int[] newSizes) {
            int[] newSteps = new int[newSizes.length];
            int added = Math.max(0, newSizes.length - sizes.length);
            for (int a = 0; a < sizes.length && a + added < newSteps.length; a++) {
                newSteps[a + added] = sizes[a] == 1 ? 0 : steps[a];
            }
            return newSteps;
        }
    }

    /** Goes through a grid's cells in row order. */
    private static final class Walk {
        private final int[] indexes = new int[MAX_AXES];
        private Grid grid = null;
        int place = 0;

        void open(Grid walked) {
            grid = walked;
            place = walked.start;
            Arrays.fill(indexes, 0);
        }

        /** To the next cell; from the last one back to the first. */
        void goOn() {
            if (grid == null) {
                return;
            }
            for (int a = Math.min(grid.sizes.length, indexes.length) - 1; a >= 0; a--) {
                indexes[a]++;
                place += grid.steps[a];
                if (indexes[a] < grid.sizes[a]) {
                    return;
                }
                place -= indexes[a] * grid.steps[a];
                indexes[a] = 0;
            }
        }
    }

    /** Reads a view text item by item, and finds the first byte that does not belong there. */
    private static final class ItemReader {
        static final int FROM = 0;
        static final int TO = 1;
        static final int STEP = 2;
        private static final int MAX_PARTS = 3;
        private static final int MAX_DIGITS = 9;
        private static final int END = -1;

        private byte[] text = new byte[0];
        private int length = 0;
        private int position = 0;
        int fault = NOWHERE;
        /** The first byte of the latest item. */
        int begin = 0;
        /** Its numbers with colons between: none for a new axis, one for a place, more for a range. */
        int partCount = 0;
        private final int[] numbers = new int[MAX_PARTS];
        private final boolean[] told = new boolean[MAX_PARTS];

        void open(byte[] bytes, int byteCount) {
            text = bytes;
            length = byteCount;
            position = 0;
            fault = NOWHERE;
            skipBlanks();
        }

        boolean isAtEnd() {
            return here() == END;
        }

        boolean isTold(int part) {
            return part >= 0 && part < partCount && part < told.length && told[part];
        }

        int number(int part) {
            return isTold(part) ? numbers[part] : 0;
        }

        /** Reads one item and the comma after it: whether there was a comma. */
        boolean readItem() {
            skipBlanks();
            begin = position;
            partCount = 0;
            if (here() == '*') {
                position++;
                skipBlanks();
            } else {
                readParts();
            }
            if (fault != NOWHERE || here() == END) {
                return false;
            }
            if (here() != ',') {
                fault = position;
                return false;
            }
            position++;
            return true;
        }

        private void readParts() {
            readPart();
            for (int colons = 1; colons < MAX_PARTS && fault == NOWHERE && here() == ':'; colons++) {
                position++;
                skipBlanks();
                readPart();
            }
            if (fault == NOWHERE && partCount == 1 && !isTold(FROM)) {
                fault = position;
            }
        }

        private void readPart() {
            if (partCount >= MAX_PARTS) {
                return;
            }
            told[partCount] = here() == '-' || isDigit(here());
            if (told[partCount]) {
                numbers[partCount] = readNumber();
                skipBlanks();
            }
            partCount++;
        }

        private int readNumber() {
            boolean below = here() == '-';
            if (below) {
                position++;
            }
            int digits = 0;
            int value = 0;
            while (digits < MAX_DIGITS && isDigit(here())) {
                value = value * 10 + (here() - '0');
                position++;
                digits++;
            }
            if (digits == 0) {
                fault = position;
            }
            return below ? -value : value;
        }

        private void skipBlanks() {
            while (position < length && here() == ' ') {
                position++;
            }
        }

        private int here() {
            return position >= 0 && position < length && position < text.length ? text[position] & 255 : END;
        }

        private static boolean isDigit(int b) {
            return b >= '0' && b <= '9';
        }
    }

    /** Makes a view of a grid out of the items of a view text. */
    private static final class Cut {
        private Grid source = null;
        private int nextAxis = 0;
        private int start = 0;
        private final int[] sizes = new int[MAX_AXES];
        private final int[] steps = new int[MAX_AXES];
        /** How many axes the view would have, also beyond what it may have. */
        int axisCount = 0;

        void open(Grid grid) {
            source = grid;
            nextAxis = 0;
            start = grid.start;
            axisCount = 0;
        }

        /** Whether the item fits the grid. */
        boolean takeItem(ItemReader item) {
            if (item.partCount == 0) {
                addAxis(1, 0);
                return true;
            }
            if (source == null || !source.hasAxis(nextAxis)) {
                return false;
            }
            int size = source.sizes[nextAxis];
            int step = source.steps[nextAxis];
            nextAxis++;
            return item.partCount == 1 ? takePlace(item.number(ItemReader.FROM), size, step) : takeRange(item, size, step);
        }

        void takeRest() {
            if (source == null) {
                return;
            }
            for (int a = nextAxis; a >= 0 && a < source.sizes.length; a++) {
                addAxis(source.sizes[a], source.steps[a]);
            }
        }

        Grid result() {
            int kept = Math.min(axisCount, MAX_AXES);
            return source == null ? null
                : source.viewOf(start, Arrays.copyOf(sizes, kept), Arrays.copyOf(steps, kept), source.spread);
        }

        private boolean takePlace(int place, int size, int step) {
            if (place < -size || place >= size) {
                return false;
            }
            start += countedFromEnd(place, size) * step;
            return true;
        }

        private boolean takeRange(ItemReader item, int size, int step) {
            int stride = item.isTold(ItemReader.STEP) ? item.number(ItemReader.STEP) : 1;
            if (stride == 0) {
                return false;
            }
            int low = stride > 0 ? 0 : -1;
            int high = stride > 0 ? size : size - 1;
            int from = stride > 0 ? low : high;
            int to = stride > 0 ? high : low;
            if (item.isTold(ItemReader.FROM)) {
                from = cutTo(low, high, countedFromEnd(item.number(ItemReader.FROM), size));
            }
            if (item.isTold(ItemReader.TO)) {
                to = cutTo(low, high, countedFromEnd(item.number(ItemReader.TO), size));
            }
            int count = placeCount(stride > 0 ? to - from : from - to, Math.abs(stride));
            // A stride that is never taken may be so long that its product with the step goes beyond an int.
            addAxis(count, count > 1 ? stride * step : 0);
            if (count > 0) {
                start += from * step;
            }
            return true;
        }

        private void addAxis(int size, int step) {
            if (axisCount >= 0 && axisCount < MAX_AXES) {
                sizes[axisCount] = size;
                steps[axisCount] = step;
            }
            axisCount++;
        }

        private static int countedFromEnd(int place, int size) {
            return place < 0 ? place + size : place;
        }

        private static int cutTo(int low, int high, int place) {
            return Math.max(low, Math.min(high, place));
        }

        private static int placeCount(int distance, int stride) {
            return distance <= 0 || stride <= 0 ? 0 : (distance - 1) / stride + 1;
        }
    }
}
