import java.util.ArrayList;
import java.util.List;
import java.util.SplittableRandom;

/** Runs of calls by fixed seeds, answered by the class and by a slow model written straight from the document. */
public final class ModelTest {
    private static final int RUNS = 1000;
    private static final int CALLS = 512;
    private static final int[] FILLING = {0, 1, 11, 14};
    private static final int[] EDGES = {Integer.MIN_VALUE, -9999999, -2, -1, 0, 1, 9999999, 10000000,
        Integer.MAX_VALUE};

    private final SplittableRandom random;
    private final RecordTimes real = new RecordTimes();
    private final Model model = new Model();
    /** Narrow times make many slots meet on the line. */
    private final int width;
    /** How often a number is one out of its range, in a hundred. */
    private final int wild;

    private ModelTest(long seed) {
        random = new SplittableRandom(seed);
        width = new int[] {12, 60, 1000, 9999999}[random.nextInt(4)];
        wild = new int[] {0, 1, 6}[random.nextInt(3)];
    }

    public static void main(String[] args) {
        for (int seed = 0; seed < RUNS; seed++) {
            ModelTest run = new ModelTest(seed);
            int[] weights = run.weights();
            for (int k = 0; k < CALLS; k++) {
                run.call(seed, k, run.pick(weights));
            }
        }
        Check.finish();
    }

    private int[] weights() {
        int[] weights = new int[19];
        for (int k = 0; k < weights.length; k++) {
            weights[k] = 1 + random.nextInt(4) * random.nextInt(4);
        }
        weights[0] += random.nextInt(30);
        // In some runs one call comes so often that slots, marks, certificates or rows get full.
        if (random.nextInt(3) == 0) {
            weights[FILLING[random.nextInt(FILLING.length)]] += 60;
        }
        return weights;
    }

    private int pick(int[] weights) {
        int all = 0;
        for (int w : weights) {
            all += w;
        }
        int left = random.nextInt(all);
        int k = 0;
        while (left >= weights[k]) {
            left -= weights[k];
            k++;
        }
        return k;
    }

    private int number(int from, int to) {
        if (random.nextInt(100) < wild) {
            return random.nextBoolean() ? EDGES[random.nextInt(EDGES.length)] : (random.nextBoolean() ? from - 1 : to + 1);
        }
        return to < from ? from : from + random.nextInt(to - from + 1);
    }

    private int spanEnd() {
        if (random.nextInt(8) == 0) {
            return EDGES[random.nextInt(EDGES.length)];
        }
        return random.nextInt(3 * width + 20) - width;
    }

    private int slotNumber() {
        return number(0, model.slots.size() - 1);
    }

    private void call(int seed, int k, int which) {
        long[] a = arguments(which);
        Object want = answer(model, which, a);
        Object got = answer(real, which, a);
        Check.due("", 0, 0);
        if (!want.equals(got)) {
            Check.fail("seed " + seed + " call " + k + ": " + which + " " + java.util.Arrays.toString(a) + " answered " + got
                    + ", due is " + want);
        }
    }

    private long[] arguments(int which) {
        long on = random.nextInt(2);
        switch (which) {
            case 0:
                return new long[] {number(0, 9), number(0, width), number(1, 8), random.nextLong(), number(0, 99) % 5,
                    number(0, 49) % 7};
            case 1:
                return new long[] {number(0, 9), number(0, width), number(0, width)};
            case 2:
                return new long[] {number(0, 9)};
            case 3:
                return new long[] {number(0, 5)};
            case 4:
                return new long[] {spanEnd(), spanEnd(), random.nextBoolean() ? -1 : number(-1, 4),
                    random.nextBoolean() ? -1 : number(-1, 6), number(0, random.nextBoolean() ? 3 : 60)};
            case 5:
            case 6:
            case 11:
                return new long[] {slotNumber()};
            case 7:
                return new long[] {slotNumber(), spanEnd(), spanEnd()};
            case 8:
            case 9:
                return new long[] {spanEnd(), spanEnd()};
            case 10:
                return new long[] {number(0, 6), on};
            case 12:
                return new long[] {number(0, model.certificates.size() - 1), number(0, 2)};
            case 13:
                return new long[] {number(0, 19) % 4, number(0, 6), on};
            case 14:
                return new long[] {number(0, 19) % 4, slotNumber()};
            case 15:
                return new long[] {number(0, model.rows.size() - 1), number(0, 2)};
            case 16:
                return new long[] {slotNumber(), number(0, 7), random.nextInt(3) == 0 ? 1 : number(1, 255)};
            case 17:
                return new long[] {};
            default:
                return new long[] {number(0, 4)};
        }
    }

    private static Object answer(RecordTimes x, int which, long[] a) {
        int[] v = ints(a);
        try {
            switch (which) {
                case 0: return x.slot(v[0], v[1], v[2], a[3], v[4], v[5]);
                case 1: return x.mark(v[0], v[1], v[2]);
                case 2: return x.offset(v[0]);
                case 3: return x.contradiction(v[0]);
                case 4: return x.find(v[0], v[1], v[2], v[3], v[4]);
                case 5: return x.time(v[0]);
                case 6: return x.sum(v[0]);
                case 7: return x.part(v[0], v[1], v[2]);
                case 8: return x.size(v[0], v[1]);
                case 9: return x.export(v[0], v[1]);
                case 10: x.hold(v[0], v[1] == 1); return "done";
                case 11: return x.drop(v[0]);
                case 12: return x.certificate(v[0], v[1]);
                case 13: x.right(v[0], v[1], v[2] == 1); return "done";
                case 14: return x.listen(v[0], v[1]);
                case 15: return x.row(v[0], v[1]);
                case 16: x.poke(v[0], v[1], v[2]); return "done";
                case 17: return x.verify();
                default: return x.count(v[0]);
            }
        } catch (RuntimeException e) {
            return e.getClass();
        }
    }

    private static Object answer(Model x, int which, long[] a) {
        int[] v = ints(a);
        try {
            switch (which) {
                case 0: return x.slot(v, a[3]);
                case 1: return x.mark(v[0], v[1], v[2]);
                case 2: return x.offset(v[0]);
                case 3: return x.contradiction(v[0]);
                case 4: return x.find(v[0], v[1], v[2], v[3], v[4]);
                case 5: return (int) x.there(v[0]).begin();
                case 6: return x.there(v[0]).sum();
                case 7: return x.sumOf(List.of(x.there(v[0])), v[1], v[2]);
                case 8: return x.bytes(x.line(), v[0], v[1]).size();
                case 9: return x.sumOf(x.line(), v[0], v[1]);
                case 10: return x.hold(v[0], v[1] == 1);
                case 11: return x.drop(v[0]);
                case 12: return x.certificate(v[0], v[1]);
                case 13: return x.right(v[0], v[1], v[2] == 1);
                case 14: return x.listen(v[0], v[1]);
                case 15: return x.row(v[0], v[1]);
                case 16: return x.poke(v[0], v[1], v[2]);
                case 17: return x.verify();
                default: return x.count(v[0]);
            }
        } catch (RuntimeException e) {
            return e.getClass();
        }
    }

    private static int[] ints(long[] a) {
        int[] v = new int[a.length];
        for (int k = 0; k < a.length; k++) {
            v[k] = (int) a[k];
        }
        return v;
    }

    private static final class Model {
        final List<Slot> slots = new ArrayList<>();
        final List<int[]> marks = new ArrayList<>();
        final List<int[]> certificates = new ArrayList<>();
        final List<int[]> rows = new ArrayList<>();
        final List<Integer> held = new ArrayList<>();
        final List<String> rights = new ArrayList<>();

        final class Slot {
            int number;
            int source;
            int clock;
            int[] bytes;
            int unit;
            int incident;
            int kept;
            boolean dropped;

            long begin() {
                return (long) clock + offset(source);
            }

            int sum() {
                return Check.sumOf(bytes);
            }
        }

        static void known(boolean holds) {
            if (!holds) {
                throw new IllegalArgumentException();
            }
        }

        static void ranged(boolean holds) {
            if (!holds) {
                throw new IndexOutOfBoundsException();
            }
        }

        static void state(boolean holds) {
            if (!holds) {
                throw new IllegalStateException();
            }
        }

        static void room(boolean holds) {
            if (!holds) {
                throw new UnsupportedOperationException();
            }
        }

        static boolean in(int v, int from, int to) {
            return v >= from && v <= to;
        }

        int slot(int[] v, long bytes) {
            known(in(v[0], 0, 9) && in(v[4], 0, 99) && in(v[5], 0, 49));
            ranged(in(v[1], 0, 9999999) && in(v[2], 1, 8));
            room(slots.size() < 200);
            Slot s = new Slot();
            s.number = slots.size();
            s.source = v[0];
            s.clock = v[1];
            s.bytes = new int[v[2]];
            long left = bytes;
            for (int i = v[2] - 1; i >= 0; i--) {
                s.bytes[i] = (int) (left & 255);
                left >>= 8;
            }
            s.unit = v[4];
            s.incident = v[5];
            s.kept = s.sum();
            slots.add(s);
            return s.number;
        }

        int mark(int source, int clock, int truly) {
            known(in(source, 0, 9));
            ranged(in(clock, 0, 9999999) && in(truly, 0, 9999999));
            room(marks.size() < 60);
            marks.add(new int[] {source, truly - clock});
            return marks.size() - 1;
        }

        int firstMark(int source) {
            for (int m = 0; m < marks.size(); m++) {
                if (marks.get(m)[0] == source) {
                    return m;
                }
            }
            return -1;
        }

        int offset(int source) {
            known(in(source, 0, 9));
            int m = firstMark(source);
            return m < 0 ? 0 : marks.get(m)[1];
        }

        int contradiction(int i) {
            ranged(i >= 0);
            List<Integer> all = new ArrayList<>();
            for (int m = 0; m < marks.size(); m++) {
                int first = firstMark(marks.get(m)[0]);
                if (marks.get(first)[1] != marks.get(m)[1]) {
                    all.add(100 * first + m);
                }
            }
            return i < all.size() ? all.get(i) : -1;
        }

        List<Slot> line() {
            List<Slot> line = new ArrayList<>();
            for (Slot s : slots) {
                if (!s.dropped) {
                    line.add(s);
                }
            }
            line.sort((a, b) -> {
                if (a.begin() != b.begin()) {
                    return Long.compare(a.begin(), b.begin());
                }
                return a.source != b.source ? Integer.compare(a.source, b.source) : Integer.compare(a.number, b.number);
            });
            return line;
        }

        List<Integer> bytes(List<Slot> some, int from, int to) {
            List<Integer> bytes = new ArrayList<>();
            for (Slot s : some) {
                for (int i = 0; i < s.bytes.length; i++) {
                    long t = s.begin() + i;
                    if (t >= from && t < to) {
                        bytes.add(s.bytes[i]);
                    }
                }
            }
            return bytes;
        }

        int sumOf(List<Slot> some, int from, int to) {
            return Check.sumOf(bytes(some, from, to).stream().mapToInt(Integer::intValue).toArray());
        }

        int find(int from, int to, int unit, int incident, int i) {
            known(in(unit, -1, 99) && in(incident, -1, 49));
            ranged(i >= 0);
            List<Integer> all = new ArrayList<>();
            for (Slot s : line()) {
                if ((unit == -1 || s.unit == unit) && (incident == -1 || s.incident == incident)
                        && !bytes(List.of(s), from, to).isEmpty()) {
                    all.add(s.number);
                }
            }
            return i < all.size() ? all.get(i) : -1;
        }

        Slot slotOf(int number) {
            known(in(number, 0, slots.size() - 1));
            return slots.get(number);
        }

        Slot there(int number) {
            Slot s = slotOf(number);
            state(!s.dropped);
            return s;
        }

        String hold(int incident, boolean on) {
            known(in(incident, 0, 49));
            state(held.contains(incident) != on);
            if (on) {
                held.add(incident);
            } else {
                held.remove(Integer.valueOf(incident));
            }
            return "done";
        }

        int drop(int number) {
            Slot s = there(number);
            state(!held.contains(s.incident));
            s.dropped = true;
            certificates.add(new int[] {number, s.kept, s.sum()});
            return certificates.size() - 1;
        }

        int certificate(int c, int what) {
            known(in(c, 0, certificates.size() - 1) && in(what, 0, 2));
            return certificates.get(c)[what];
        }

        String right(int person, int incident, boolean on) {
            known(in(person, 0, 19) && in(incident, 0, 49));
            rights.remove(person + "/" + incident);
            if (on) {
                rights.add(person + "/" + incident);
            }
            return "done";
        }

        int listen(int person, int number) {
            known(in(person, 0, 19));
            Slot s = slotOf(number);
            boolean allowed = !s.dropped && rights.contains(person + "/" + s.incident);
            rows.add(new int[] {person, number, allowed ? 1 : 0});
            state(allowed);
            return s.sum();
        }

        int row(int i, int what) {
            known(in(i, Math.max(0, rows.size() - 200), rows.size() - 1) && in(what, 0, 2));
            return rows.get(i)[what];
        }

        String poke(int number, int i, int mask) {
            Slot s = slotOf(number);
            ranged(in(i, 0, s.bytes.length - 1) && in(mask, 1, 255));
            state(!s.dropped);
            s.bytes[i] ^= mask;
            return "done";
        }

        int verify() {
            for (Slot s : slots) {
                if (!s.dropped && s.sum() != s.kept) {
                    return s.number;
                }
            }
            return -1;
        }

        int count(int what) {
            known(in(what, 0, 4));
            return new int[] {slots.size(), line().size(), marks.size(), certificates.size(), rows.size()}[what];
        }
    }
}
