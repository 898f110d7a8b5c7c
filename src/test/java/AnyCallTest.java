/** No call throws, whatever its arguments and however many came before; the same calls give the same answers. */
public final class AnyCallTest {
    private static final Check CHECK = new Check();
    private static final int RUNS = 200;
    private static final int CALLS = 3000;
    private static final int[] EDGES = {
        Integer.MIN_VALUE, Integer.MIN_VALUE + 1, -100001, -4097, -401, -5, -4, -2, -1, 0, 1, 2, 3, 4, 5, 20,
        399, 400, 401, 4095, 4096, 4097, 15999, 16000, 16001, 65536, 100000, 100001, Integer.MAX_VALUE};
    private static final String BYTES = "0123456789::::--,,,,**  ";

    private long seed;

    public static void main(String[] args) {
        for (int run = 1; run <= RUNS; run++) {
            CHECK.due("run " + run + " again", new AnyCallTest().sumOf(run), new AnyCallTest().sumOf(run));
        }
        CHECK.end();
    }

    private long sumOf(int run) {
        seed = run * 104729L;
        SliceViews x = new SliceViews();
        long sum = 0;
        for (int n = 0; n < CALLS; n++) {
            sum = sum * 31 + call(x);
        }
        return sum;
    }

    private int below(int bound) {
        seed = seed * 6364136223846793005L + 1442695040888963407L;
        return (int) ((seed >>> 33) % bound);
    }

    private int any() {
        return below(3) == 0 ? EDGES[below(EDGES.length)] : below(30) - 2;
    }

    private int four() {
        int packed = 0;
        for (int i = 0; i < 4; i++) {
            packed = packed << 8 | (below(100) == 0 ? below(256) : BYTES.charAt(below(BYTES.length())));
        }
        return packed;
    }

    private long call(SliceViews x) {
        switch (below(19)) {
            case 0: return x.feed(four(), four(), four(), four(), four());
            case 1: return x.end(any());
            case 2: return x.axis(any());
            case 3: return x.at(any());
            case 4: return x.grid();
            case 5: return x.put(any(), any());
            case 6: return x.get(any());
            case 7: return x.cell(any(), any());
            case 8: return x.code();
            case 9: return x.axes(any());
            case 10: return x.size(any(), any());
            case 11: return x.cells(any());
            case 12: return x.view(any());
            case 13: return x.place();
            case 14: return x.turned(any(), any(), any());
            case 15: return x.spread(any());
            case 16: return x.shaped(any());
            case 17: return x.copy(any(), any());
            default: return x.shares(any(), any());
        }
    }
}
