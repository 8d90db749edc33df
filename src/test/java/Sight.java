import java.util.function.IntSupplier;

/** All that can be seen of an object, as a text, so that two objects can be compared; the object is used up by it. */
final class Sight {
    private static final int MIN = Integer.MIN_VALUE;
    private static final int MAX = Integer.MAX_VALUE;

    private final StringBuilder text = new StringBuilder();
    private final Counted x;
    private int left;

    private Sight(Counted x, int calls) {
        this.x = x;
        left = calls;
    }

    /** What does not fit into so many calls is left out, the same for both objects that are compared. */
    static String of(Counted x, int calls) {
        Sight s = new Sight(x, calls);
        s.lookAtRows();
        s.lookAtAllButRows();
        return s.text.toString();
    }

    static String butRows(Counted x, int calls) {
        Sight s = new Sight(x, calls);
        s.lookAtAllButRows();
        return s.text.toString();
    }

    private void lookAtRows() {
        int ever = ask("count 4", () -> x.count(4));
        for (int what = 0; what <= 2; what++) {
            int w = what;
            for (int i : new int[] {0, 1, ever - 201, ever - 200, ever - 199, ever - 1, ever}) {
                ask("row " + i + " " + w, () -> x.row(i, w));
            }
        }
    }

    private void lookAtAllButRows() {
        int slots = ask("count 0", () -> x.count(0));
        ask("count 1", () -> x.count(1));
        int marks = ask("count 2", () -> x.count(2));
        int certificates = ask("count 3", () -> x.count(3));
        ask("verify", x::verify);
        ask("size", () -> x.size(MIN, MAX));
        ask("export", () -> x.export(MIN, MAX));
        each(0, 9, "offset", k -> x.offset(k));
        each(0, Math.min(marks, 12), "contradiction", k -> x.contradiction(k));
        for (int what = 0; what <= 2; what++) {
            int w = what;
            each(0, Math.min(certificates, 5), "certificate " + w + " of", k -> x.certificate(k, w));
        }
        int some = Math.min(slots, 12);
        each(0, some, "time", k -> x.time(k));
        each(0, some, "sum", k -> x.sum(k));
        each(0, some, "find", k -> x.find(MIN, MAX, -1, -1, k));
        each(0, some, "find of unit 0", k -> x.find(MIN, MAX, 0, -1, k));
        lookAtRights(Math.min(slots, 5));
        each(0, 49, "hold", k -> {
            x.hold(k, true);
            return 0;
        });
        ask("next mark", () -> x.mark(0, 0, 0));
        ask("next slot", () -> x.slot(0, 0, 1, 0, 0, 0));
    }

    private void lookAtRights(int slots) {
        for (int number = 0; number < slots; number++) {
            int n = number;
            each(0, 19, "listen to " + n + " by", k -> x.listen(k, n));
        }
    }

    private interface Asked {
        int of(int k);
    }

    private void each(int from, int to, String what, Asked asked) {
        for (int k = from; k <= to; k++) {
            int number = k;
            ask(what + " " + k, () -> asked.of(number));
        }
    }

    private int ask(String what, IntSupplier call) {
        if (left == 0) {
            return 0;
        }
        left--;
        int answer = 0;
        text.append(what).append(": ");
        try {
            answer = call.getAsInt();
            text.append(answer);
        } catch (RuntimeException e) {
            text.append(e.getClass().getSimpleName());
        }
        text.append('\n');
        return answer;
    }
}
