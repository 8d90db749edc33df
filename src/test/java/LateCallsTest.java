import java.util.SplittableRandom;

/**
 * What calls beyond the 512th answer is free, but LANGUAGE.md's rule 7 is not: no call of any run, however long and with
 * whatever arguments, may throw anything but the document's exceptions.
 */
public final class LateCallsTest {
    private static final int[] EDGES = {Integer.MIN_VALUE, -10000000, -9999999, -2, -1, 0, 1, 7, 8, 9, 10, 19, 20, 49, 50, 59, 60,
        99, 100, 199, 200, 255, 256, 9999999, 10000000, Integer.MAX_VALUE};

    private static final SplittableRandom RANDOM = new SplittableRandom(11);

    public static void main(String[] args) {
        for (int run = 0; run < 20; run++) {
            RecordTimes x = new RecordTimes();
            for (int k = 0; k < 5000; k++) {
                call(x, RANDOM.nextInt(19));
            }
        }
        rowsGoOn();
        Check.finish();
    }

    /** Any number at all, or one that most calls take. */
    private static int any() {
        return RANDOM.nextInt(3) == 0 ? EDGES[RANDOM.nextInt(EDGES.length)] : RANDOM.nextInt(10);
    }

    private static void call(RecordTimes x, int which) {
        try {
            change(x, which);
            ask(x, which);
        } catch (RuntimeException e) {
            Class<?> c = e.getClass();
            boolean named = c == Check.UNKNOWN || c == Check.RANGE || c == Check.STATE || c == Check.NO_ROOM;
            Check.due("call " + which + " threw " + e, 1, named ? 1 : 0);
        }
    }

    private static void change(RecordTimes x, int which) {
        switch (which) {
            case 0: x.slot(any(), any(), any(), RANDOM.nextLong(), any(), any()); break;
            case 1: x.mark(any(), any(), any()); break;
            case 2: x.hold(any(), RANDOM.nextBoolean()); break;
            case 3: x.drop(any()); break;
            case 4: x.right(any(), any(), RANDOM.nextBoolean()); break;
            case 5: x.listen(any(), any()); break;
            case 6: x.poke(any(), any(), any()); break;
            default: break;
        }
    }

    private static void ask(RecordTimes x, int which) {
        switch (which) {
            case 7: x.offset(any()); break;
            case 8: x.contradiction(any()); break;
            case 9: x.find(any(), any(), any(), any(), any()); break;
            case 10: x.time(any()); break;
            case 11: x.sum(any()); break;
            case 12: x.part(any(), any(), any()); break;
            case 13: x.size(any(), any()); break;
            case 14: x.export(any(), any()); break;
            case 15: x.certificate(any(), any()); break;
            case 16: x.row(any(), any()); break;
            case 17: x.verify(); break;
            case 18: x.count(any()); break;
            default: break;
        }
    }

    private static void rowsGoOn() {
        RecordTimes x = new RecordTimes();
        x.slot(0, 0, 1, 0, 0, 0);
        x.right(0, 0, true);
        for (int k = 0; k < 2000; k++) {
            int i = k;
            Check.passes("listen " + i, () -> x.listen(0, 0));
            Check.passes("row " + i, () -> x.row(i, 2));
        }
    }
}
