/**
 * Recordings of several sources on one time line; ../shared/DOC.md has its promises.
 */
public final class RecordTimes {
    private static final int LAST_TIME = 9999999;
    private static final int SOURCES = 10;
    private static final int UNITS = 100;
    private static final int INCIDENTS = 50;
    private static final int PERSONS = 20;
    private static final int MOST_SLOTS = 200;
    private static final int MOST_BYTES = 8;
    private static final int MOST_MARKS = 60;
    private static final int ROWS_KEPT = 200;
    private static final int LAST_MASK = 255;
    private static final int ANY = -1;
    private static final int NONE = -1;

    private final Slots slots;
    private final Marks marks;
    private final Line line;
    private final Certificates certificates;
    private final Listeners listeners;
    private final boolean[] held;

    public RecordTimes() {
        slots = new Slots();
        marks = new Marks();
        line = new Line(slots, marks);
        certificates = new Certificates();
        listeners = new Listeners();
        held = new boolean[INCIDENTS];
    }

    public int slot(int source, int time, int n, long bytes, int unit, int incident)
            throws IllegalArgumentException, IndexOutOfBoundsException, UnsupportedOperationException {
        checkSource(source);
        checkUnit(unit);
        checkIncident(incident);
        checkTime(time);
        if (n < 1 || n > MOST_BYTES) {
            throw new IndexOutOfBoundsException("a slot has 1 to 8 bytes");
        }
        if (slots.made >= MOST_SLOTS) {
            throw new UnsupportedOperationException("there are 200 slots");
        }
        int number = slots.add(source, time, n, bytes, unit, incident);
        line.insert(number);
        return number;
    }

    public int mark(int source, int clock, int truly)
            throws IllegalArgumentException, IndexOutOfBoundsException, UnsupportedOperationException {
        checkSource(source);
        checkTime(clock);
        checkTime(truly);
        if (marks.made >= MOST_MARKS) {
            throw new UnsupportedOperationException("there are 60 marks");
        }
        int number = marks.add(source, truly - clock);
        if (marks.first[source] == number) {
            line.sortAgain();
        }
        return number;
    }

    public int offset(int source) throws IllegalArgumentException {
        checkSource(source);
        return marks.offsetOf(source);
    }

    public int contradiction(int i) throws IndexOutOfBoundsException {
        checkPlace(i);
        return marks.contradictionAt(i);
    }

    public int find(int from, int to, int unit, int incident, int i)
            throws IllegalArgumentException, IndexOutOfBoundsException {
        if (unit != ANY) {
            checkUnit(unit);
        }
        if (incident != ANY) {
            checkIncident(incident);
        }
        checkPlace(i);
        int before = 0;
        for (int k = 0; k < line.length; k++) {
            int number = line.order[k];
            if (slots.isOf(number, unit, incident) && line.bytesWithin(number, from, to) > 0) {
                if (before == i) {
                    return number;
                }
                before++;
            }
        }
        return NONE;
    }

    public int time(int slot) throws IllegalArgumentException, IllegalStateException {
        checkSlot(slot);
        checkThere(slot);
        return line.beginOf(slot);
    }

    public int sum(int slot) throws IllegalArgumentException, IllegalStateException {
        checkSlot(slot);
        checkThere(slot);
        return slots.sumNow(slot);
    }

    public int part(int slot, int from, int to) throws IllegalArgumentException, IllegalStateException {
        checkSlot(slot);
        checkThere(slot);
        return line.sumWithin(0, slot, from, to);
    }

    public int size(int from, int to) {
        int bytes = 0;
        for (int k = 0; k < line.length; k++) {
            bytes += line.bytesWithin(line.order[k], from, to);
        }
        return bytes;
    }

    public int export(int from, int to) {
        int s = 0;
        for (int k = 0; k < line.length; k++) {
            s = line.sumWithin(s, line.order[k], from, to);
        }
        return s;
    }

    public void hold(int incident, boolean on) throws IllegalArgumentException, IllegalStateException {
        checkIncident(incident);
        if (held[incident] == on) {
            throw new IllegalStateException("the hold is so already");
        }
        held[incident] = on;
    }

    public int drop(int slot) throws IllegalArgumentException, IllegalStateException {
        checkSlot(slot);
        checkThere(slot);
        if (held[slots.incident[slot]]) {
            throw new IllegalStateException("the incident is under a hold");
        }
        slots.there[slot] = false;
        line.remove(slot);
        return certificates.add(slot, slots.keptSum[slot], slots.sumNow(slot));
    }

    public int certificate(int c, int what) throws IllegalArgumentException {
        if (c < 0 || c >= certificates.made) {
            throw new IllegalArgumentException("no such certificate");
        }
        switch (what) {
            case 0:
                return certificates.slot[c];
            case 1:
                return certificates.keptSum[c];
            case 2:
                return certificates.lastSum[c];
            default:
                throw new IllegalArgumentException("no such what of a certificate");
        }
    }

    public void right(int person, int incident, boolean on) throws IllegalArgumentException {
        checkPerson(person);
        checkIncident(incident);
        listeners.allow(person, incident, on);
    }

    public int listen(int person, int slot) throws IllegalArgumentException, IllegalStateException {
        checkPerson(person);
        checkSlot(slot);
        boolean allowed = slots.there[slot] && listeners.mayHear(person, slots.incident[slot]);
        // The row comes before the refusal: a refused try is kept too.
        listeners.keepRow(person, slot, allowed);
        if (!allowed) {
            throw new IllegalStateException("the slot is dropped, or the person has no right");
        }
        return slots.sumNow(slot);
    }

    public int row(int i, int what) throws IllegalArgumentException {
        if (!listeners.isKept(i)) {
            throw new IllegalArgumentException("no such row is kept");
        }
        int place = i % ROWS_KEPT;
        switch (what) {
            case 0:
                return listeners.person[place];
            case 1:
                return listeners.slot[place];
            case 2:
                return listeners.allowed[place] ? 1 : 0;
            default:
                throw new IllegalArgumentException("no such what of a row");
        }
    }

    public void poke(int slot, int i, int mask)
            throws IllegalArgumentException, IndexOutOfBoundsException, IllegalStateException {
        checkSlot(slot);
        if (i < 0 || i >= slots.length[slot]) {
            throw new IndexOutOfBoundsException("the slot has no such byte");
        }
        if (mask < 1 || mask > LAST_MASK) {
            throw new IndexOutOfBoundsException("a mask is 1 to 255");
        }
        checkThere(slot);
        slots.alter(slot, i, mask);
    }

    public int verify() {
        for (int number = 0; number < slots.made; number++) {
            if (slots.there[number] && slots.sumNow(number) != slots.keptSum[number]) {
                return number;
            }
        }
        return NONE;
    }

    public int count(int what) throws IllegalArgumentException {
        switch (what) {
            case 0:
                return slots.made;
            case 1:
                return line.length;
            case 2:
                return marks.made;
            case 3:
                return certificates.made;
            case 4:
                return listeners.rowsEver;
            default:
                throw new IllegalArgumentException("no such what to count");
        }
    }

    private static void checkSource(int source) {
        if (source < 0 || source >= SOURCES) {
            throw new IllegalArgumentException("no such source");
        }
    }

    private static void checkUnit(int unit) {
        if (unit < 0 || unit >= UNITS) {
            throw new IllegalArgumentException("no such unit");
        }
    }

    private static void checkIncident(int incident) {
        if (incident < 0 || incident >= INCIDENTS) {
            throw new IllegalArgumentException("no such incident");
        }
    }

    private static void checkPerson(int person) {
        if (person < 0 || person >= PERSONS) {
            throw new IllegalArgumentException("no such person");
        }
    }

    private static void checkTime(int time) {
        if (time < 0 || time > LAST_TIME) {
            throw new IndexOutOfBoundsException("a time is 0 to 9999999");
        }
    }

    private static void checkPlace(int i) {
        if (i < 0) {
            throw new IndexOutOfBoundsException("the first one is 0");
        }
    }

    private void checkSlot(int slot) {
        if (slot < 0 || slot >= slots.made) {
            throw new IllegalArgumentException("no such slot");
        }
    }

    private void checkThere(int slot) {
        if (!slots.there[slot]) {
            throw new IllegalStateException("the slot is dropped");
        }
    }

    /** All slots ever made; callers hand in numbers of slots that were made. */
    private static final class Slots {
        final int[] source = new int[MOST_SLOTS];
        final int[] clock = new int[MOST_SLOTS];
        final int[] length = new int[MOST_SLOTS];
        final long[] bytes = new long[MOST_SLOTS];
        final int[] unit = new int[MOST_SLOTS];
        final int[] incident = new int[MOST_SLOTS];
        final int[] keptSum = new int[MOST_SLOTS];
        final boolean[] there = new boolean[MOST_SLOTS];
        int made;

        /** The caller has seen that there is room. */
        int add(int ofSource, int atClock, int n, long itsBytes, int ofUnit, int ofIncident) {
            int number = made;
            source[number] = ofSource;
            clock[number] = atClock;
            length[number] = n;
            bytes[number] = itsBytes;
            unit[number] = ofUnit;
            incident[number] = ofIncident;
            there[number] = true;
            keptSum[number] = sumNow(number);
            made++;
            return number;
        }

        boolean isOf(int number, int askedUnit, int askedIncident) {
            return (askedUnit == ANY || askedUnit == unit[number])
                    && (askedIncident == ANY || askedIncident == incident[number]);
        }

        int sumNow(int number) {
            return sumOn(0, number, 0, length[number]);
        }

        /** Goes on from the sum s, so that several slots can stand one behind the other in one sum. */
        int sumOn(int s, int number, int first, int end) {
            int result = s;
            for (int i = first; i < end; i++) {
                int b = (int) (bytes[number] >>> shiftOf(number, i)) & 0xFF;
                int x = result ^ b;
                result = ((x << 5) | (x >>> 27)) * 0x85EBCA6B;
            }
            return result;
        }

        void alter(int number, int i, int mask) {
            bytes[number] ^= (long) mask << shiftOf(number, i);
        }

        /** A slot's first byte is the highest one of its part of the long. */
        private int shiftOf(int number, int i) {
            return 8 * (length[number] - 1 - i);
        }
    }

    /** Marks in the order of their numbers, and the first one of each source. */
    private static final class Marks {
        final int[] source = new int[MOST_MARKS];
        final int[] difference = new int[MOST_MARKS];
        final int[] first = new int[SOURCES];
        int made;

        Marks() {
            for (int k = 0; k < SOURCES; k++) {
                first[k] = NONE;
            }
        }

        /** The caller has seen that there is room. */
        int add(int ofSource, int trueLessClock) {
            int number = made;
            source[number] = ofSource;
            difference[number] = trueLessClock;
            if (first[ofSource] == NONE) {
                first[ofSource] = number;
            }
            made++;
            return number;
        }

        int offsetOf(int ofSource) {
            int number = first[ofSource];
            return number == NONE ? 0 : difference[number];
        }

        int contradictionAt(int i) {
            int before = 0;
            for (int number = 0; number < made; number++) {
                if (difference[number] != offsetOf(source[number])) {
                    if (before == i) {
                        return 100 * first[source[number]] + number;
                    }
                    before++;
                }
            }
            return NONE;
        }
    }

    /** The slots that are there, always in the order of the line. */
    private static final class Line {
        final int[] order = new int[MOST_SLOTS];
        int length;
        private final Slots slots;
        private final Marks marks;

        Line(Slots slots, Marks marks) {
            this.slots = slots;
            this.marks = marks;
        }

        void insert(int number) {
            order[length] = number;
            settle(length);
            length++;
        }

        void remove(int number) {
            int left = 0;
            for (int k = 0; k < length; k++) {
                if (order[k] != number) {
                    order[left] = order[k];
                    left++;
                }
            }
            length = left;
        }

        /** A source's first mark moves all of its slots. */
        void sortAgain() {
            for (int k = 1; k < length; k++) {
                settle(k);
            }
        }

        int beginOf(int number) {
            return slots.clock[number] + marks.offsetOf(slots.source[number]);
        }

        int bytesWithin(int number, int from, int to) {
            return Math.max(0, bytesBefore(number, to) - bytesBefore(number, from));
        }

        int sumWithin(int s, int number, int from, int to) {
            return slots.sumOn(s, number, bytesBefore(number, from), bytesBefore(number, to));
        }

        /** The time is brought to the slot's own times first: so no time makes the difference too large. */
        private int bytesBefore(int number, int time) {
            int begin = beginOf(number);
            int end = begin + slots.length[number];
            return Math.max(begin, Math.min(time, end)) - begin;
        }

        private void settle(int place) {
            int number = order[place];
            int k = place;
            while (k > 0 && isBefore(number, order[k - 1])) {
                order[k] = order[k - 1];
                k--;
            }
            order[k] = number;
        }

        private boolean isBefore(int a, int b) {
            int beginA = beginOf(a);
            int beginB = beginOf(b);
            if (beginA != beginB) {
                return beginA < beginB;
            }
            if (slots.source[a] != slots.source[b]) {
                return slots.source[a] < slots.source[b];
            }
            return a < b;
        }
    }

    /** One for each dropped slot, so there is room for all. */
    private static final class Certificates {
        final int[] slot = new int[MOST_SLOTS];
        final int[] keptSum = new int[MOST_SLOTS];
        final int[] lastSum = new int[MOST_SLOTS];
        int made;

        int add(int ofSlot, int kept, int last) {
            int number = made;
            slot[number] = ofSlot;
            keptSum[number] = kept;
            lastSum[number] = last;
            made++;
            return number;
        }
    }

    /** Rights, and the latest tries to listen: row i stands at the place i modulo the rows kept. */
    private static final class Listeners {
        final int[] person = new int[ROWS_KEPT];
        final int[] slot = new int[ROWS_KEPT];
        final boolean[] allowed = new boolean[ROWS_KEPT];
        int rowsEver;
        private final boolean[] rights = new boolean[PERSONS * INCIDENTS];

        void allow(int ofPerson, int incident, boolean on) {
            rights[ofPerson * INCIDENTS + incident] = on;
        }

        boolean mayHear(int ofPerson, int incident) {
            return rights[ofPerson * INCIDENTS + incident];
        }

        void keepRow(int ofPerson, int ofSlot, boolean wasAllowed) {
            // floorMod, so that the place is one even if the count ever wrapped around.
            int place = Math.floorMod(rowsEver, ROWS_KEPT);
            person[place] = ofPerson;
            slot[place] = ofSlot;
            allowed[place] = wasAllowed;
            rowsEver++;
        }

        boolean isKept(int i) {
            return i >= 0 && i < rowsEver && i >= rowsEver - ROWS_KEPT;
        }
    }
}
