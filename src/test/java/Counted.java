/** A RecordTimes that keeps the test within the 512 calls for which the document promises answers. */
final class Counted {
    static final int MOST_CALLS = 512;

    private final RecordTimes x = new RecordTimes();
    private int used;

    int used() {
        return used;
    }

    private RecordTimes use() {
        used++;
        if (used > MOST_CALLS) {
            throw new AssertionError("the test itself is wrong: more than 512 calls of one object");
        }
        return x;
    }

    int slot(int source, int time, int n, long bytes, int unit, int incident) {
        return use().slot(source, time, n, bytes, unit, incident);
    }

    int mark(int source, int clock, int truly) {
        return use().mark(source, clock, truly);
    }

    int offset(int source) {
        return use().offset(source);
    }

    int contradiction(int i) {
        return use().contradiction(i);
    }

    int find(int from, int to, int unit, int incident, int i) {
        return use().find(from, to, unit, incident, i);
    }

    int time(int slot) {
        return use().time(slot);
    }

    int sum(int slot) {
        return use().sum(slot);
    }

    int part(int slot, int from, int to) {
        return use().part(slot, from, to);
    }

    int size(int from, int to) {
        return use().size(from, to);
    }

    int export(int from, int to) {
        return use().export(from, to);
    }

    void hold(int incident, boolean on) {
        use().hold(incident, on);
    }

    int drop(int slot) {
        return use().drop(slot);
    }

    int certificate(int c, int what) {
        return use().certificate(c, what);
    }

    void right(int person, int incident, boolean on) {
        use().right(person, incident, on);
    }

    int listen(int person, int slot) {
        return use().listen(person, slot);
    }

    int row(int i, int what) {
        return use().row(i, what);
    }

    void poke(int slot, int i, int mask) {
        use().poke(slot, i, mask);
    }

    int verify() {
        return use().verify();
    }

    int count(int what) {
        return use().count(what);
    }
}
