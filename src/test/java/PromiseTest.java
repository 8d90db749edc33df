/** Each promise with ordinary inputs, the edges that the document names, and wrong inputs. */
public final class PromiseTest {
    private static final int MIN = Integer.MIN_VALUE;
    private static final int MAX = Integer.MAX_VALUE;
    private static final int LAST = 9999999;

    public static void main(String[] args) {
        newObject();
        slotNumbersAndBytes();
        slotRefusals();
        slotRoom();
        markNumbers();
        markRefusals();
        offsets();
        contradictions();
        lineOrder();
        lineMovesWithFirstMarks();
        findSpans();
        findUnitsAndIncidents();
        findRefusals();
        times();
        sums();
        parts();
        sizes();
        exports();
        holds();
        drops();
        certificates();
        rights();
        listening();
        rows();
        pokes();
        verifying();
        counts();
        spansAtTheEndsOfInt();
        manyCalls();
        Check.finish();
    }

    private static void newObject() {
        RecordTimes x = new RecordTimes();
        for (int what = 0; what <= 4; what++) {
            int w = what;
            Check.answers("1: count " + w, 0, () -> x.count(w));
        }
        Check.answers("1: verify", -1, x::verify);
        Check.answers("1: size", 0, () -> x.size(MIN, MAX));
        Check.answers("1: export", 0, () -> x.export(MIN, MAX));
        Check.answers("1: find", -1, () -> x.find(MIN, MAX, -1, -1, 0));
        Check.answers("1: contradiction", -1, () -> x.contradiction(0));
        for (int source = 0; source < 10; source++) {
            int s = source;
            Check.answers("1: offset " + s, 0, () -> x.offset(s));
        }
        Check.refuses("1: no slot", Check.UNKNOWN, () -> x.time(0));
        Check.refuses("1: no certificate", Check.UNKNOWN, () -> x.certificate(0, 0));
        Check.refuses("1: no row", Check.UNKNOWN, () -> x.row(0, 0));
        RecordTimes other = new RecordTimes();
        other.slot(0, 0, 1, 1, 0, 0);
        other.hold(0, true);
        Check.answers("1: objects share nothing", 0, () -> x.count(0));
        Check.passes("1: nor holds", () -> x.hold(0, true));
    }

    private static void slotNumbersAndBytes() {
        RecordTimes x = new RecordTimes();
        Check.answers("2: first", 0, () -> x.slot(0, 0, 1, 0x1122334455667788L, 0, 0));
        Check.answers("2: second", 1, () -> x.slot(9, LAST, 8, 0x1122334455667788L, 99, 49));
        Check.answers("2: third", 2, () -> x.slot(3, 5, 3, 0x1122334455667788L, 1, 1));
        Check.answers("2: negative long", 3, () -> x.slot(3, 5, 8, -2L, 1, 1));
        Check.answers("2: lowest byte", Check.sumOf(0x88), () -> x.sum(0));
        Check.answers("2: highest first", Check.sumOf(0x11, 0x22, 0x33, 0x44, 0x55, 0x66, 0x77, 0x88), () -> x.sum(1));
        Check.answers("2: lowest three", Check.sumOf(0x66, 0x77, 0x88), () -> x.sum(2));
        Check.answers("2: all ones but the last", Check.sumOf(255, 255, 255, 255, 255, 255, 255, 254), () -> x.sum(3));
        Check.answers("2: bytes beyond the last time", 8, () -> x.size(LAST, LAST + 8));
    }

    private static void slotRefusals() {
        RecordTimes x = new RecordTimes();
        for (int bad : new int[] {-1, 10, MIN, MAX}) {
            Check.refuses("2: source " + bad, Check.UNKNOWN, () -> x.slot(bad, 0, 1, 0, 0, 0));
            Check.refuses("2: source before range", Check.UNKNOWN, () -> x.slot(bad, -1, 0, 0, 0, 0));
        }
        for (int bad : new int[] {-1, 100, MIN, MAX}) {
            Check.refuses("2: unit " + bad, Check.UNKNOWN, () -> x.slot(0, 0, 1, 0, bad, 0));
            Check.refuses("2: unit before range", Check.UNKNOWN, () -> x.slot(0, -1, 0, 0, bad, 0));
        }
        for (int bad : new int[] {-1, 50, MIN, MAX}) {
            Check.refuses("2: incident " + bad, Check.UNKNOWN, () -> x.slot(0, 0, 1, 0, 0, bad));
            Check.refuses("2: incident before range", Check.UNKNOWN, () -> x.slot(0, -1, 0, 0, 0, bad));
        }
        for (int bad : new int[] {-1, LAST + 1, MIN, MAX}) {
            Check.refuses("2: time " + bad, Check.RANGE, () -> x.slot(0, bad, 1, 0, 0, 0));
        }
        for (int bad : new int[] {0, 9, -1, MIN, MAX}) {
            Check.refuses("2: n " + bad, Check.RANGE, () -> x.slot(0, 0, bad, 0, 0, 0));
        }
        Check.answers("2: nothing changed", 0, () -> x.count(0));
        Check.answers("2: nothing there", 0, () -> x.size(MIN, MAX));
    }

    private static void slotRoom() {
        RecordTimes x = new RecordTimes();
        for (int k = 0; k < 200; k++) {
            int number = k;
            Check.answers("2: slot " + k, k, () -> x.slot(number % 10, number, 1, number, 0, 0));
        }
        x.drop(7);
        Check.refuses("2: no room", Check.NO_ROOM, () -> x.slot(0, 0, 1, 0, 0, 0));
        Check.refuses("2: range before room", Check.RANGE, () -> x.slot(0, 0, 9, 0, 0, 0));
        Check.refuses("2: time before room", Check.RANGE, () -> x.slot(0, -1, 1, 0, 0, 0));
        Check.refuses("2: unknown before room", Check.UNKNOWN, () -> x.slot(10, 0, 1, 0, 0, 0));
        Check.answers("2: still 200", 200, () -> x.count(0));
        Check.answers("2: 199 there", 199, () -> x.count(1));
        Check.answers("2: 199 bytes", 199, () -> x.size(MIN, MAX));
        Check.answers("19: none of 200", -1, x::verify);
        x.poke(199, 0, 1);
        Check.answers("19: the last of 200", 199, x::verify);
        for (int k = 0; k < 200; k++) {
            int number = k;
            if (number != 7) {
                Check.answers("13: certificates fill", number < 7 ? number + 1 : number, () -> x.drop(number));
            }
        }
        Check.answers("13: none there", 0, () -> x.count(1));
        Check.answers("13: last certificate", 199, () -> x.certificate(199, 0));
    }

    private static void markNumbers() {
        RecordTimes x = new RecordTimes();
        for (int k = 0; k < 60; k++) {
            int number = k;
            Check.answers("3: mark " + k, k, () -> x.mark(number % 10, number, number + 5));
        }
        Check.refuses("3: no room", Check.NO_ROOM, () -> x.mark(0, 0, 0));
        Check.refuses("3: range before room", Check.RANGE, () -> x.mark(0, -1, 0));
        Check.refuses("3: unknown before room", Check.UNKNOWN, () -> x.mark(10, 0, 0));
        Check.answers("3: still 60", 60, () -> x.count(2));
        Check.answers("3: no contradiction came", -1, () -> x.contradiction(0));
    }

    private static void markRefusals() {
        RecordTimes x = new RecordTimes();
        for (int bad : new int[] {-1, 10, MIN, MAX}) {
            Check.refuses("3: source " + bad, Check.UNKNOWN, () -> x.mark(bad, 0, 1));
            Check.refuses("3: source before range", Check.UNKNOWN, () -> x.mark(bad, -1, -1));
        }
        for (int bad : new int[] {-1, LAST + 1, MIN, MAX}) {
            Check.refuses("3: clock " + bad, Check.RANGE, () -> x.mark(0, bad, 1));
            Check.refuses("3: truly " + bad, Check.RANGE, () -> x.mark(0, 1, bad));
        }
        Check.answers("3: nothing changed", 0, () -> x.count(2));
        Check.answers("3: no offset", 0, () -> x.offset(0));
        Check.answers("3: the next is 0", 0, () -> x.mark(0, 0, LAST));
        Check.answers("3: the edge times", 1, () -> x.mark(9, LAST, 0));
    }

    private static void offsets() {
        RecordTimes x = new RecordTimes();
        x.mark(0, 10, 25);
        x.mark(0, 10, 99);
        x.mark(9, LAST, 0);
        x.mark(8, 0, LAST);
        x.mark(7, 4, 4);
        x.mark(7, 4, 5);
        Check.answers("4: of the first mark", 15, () -> x.offset(0));
        Check.answers("4: the lowest", -LAST, () -> x.offset(9));
        Check.answers("4: the highest", LAST, () -> x.offset(8));
        Check.answers("4: a first mark of offset 0 counts", 0, () -> x.offset(7));
        Check.answers("4: without a mark", 0, () -> x.offset(1));
        for (int bad : new int[] {-1, 10, MIN, MAX}) {
            Check.refuses("4: source " + bad, Check.UNKNOWN, () -> x.offset(bad));
        }
    }

    private static void contradictions() {
        RecordTimes x = new RecordTimes();
        x.mark(4, 10, 20);
        x.mark(5, 10, 11);
        x.mark(5, 20, 30);
        x.mark(4, 50, 60);
        x.mark(4, 10, 21);
        x.mark(5, 30, 31);
        x.mark(4, 20, 31);
        x.mark(6, 0, 0);
        x.mark(6, 0, 1);
        Check.answers("5: first", 102, () -> x.contradiction(0));
        Check.answers("5: second", 4, () -> x.contradiction(1));
        Check.answers("5: against the first, not the one before", 6, () -> x.contradiction(2));
        Check.answers("5: an offset of 0 is contradicted", 708, () -> x.contradiction(3));
        Check.answers("5: no more", -1, () -> x.contradiction(4));
        Check.answers("5: far beyond", -1, () -> x.contradiction(MAX));
        Check.refuses("5: below 0", Check.RANGE, () -> x.contradiction(-1));
        Check.refuses("5: lowest", Check.RANGE, () -> x.contradiction(MIN));
    }

    private static void lineIs(String what, RecordTimes x, int... numbers) {
        for (int k = 0; k < numbers.length; k++) {
            int place = k;
            Check.answers(what + ", place " + k, numbers[k], () -> x.find(MIN, MAX, -1, -1, place));
        }
        Check.answers(what + ", its end", -1, () -> x.find(MIN, MAX, -1, -1, numbers.length));
    }

    private static void lineOrder() {
        RecordTimes x = new RecordTimes();
        x.slot(5, 100, 1, 1, 0, 0);
        x.slot(2, 100, 1, 2, 0, 0);
        x.slot(2, 100, 1, 3, 0, 0);
        x.slot(9, 99, 1, 4, 0, 0);
        x.slot(0, 101, 1, 5, 0, 0);
        x.slot(2, 100, 1, 6, 0, 0);
        lineIs("6: the line", x, 3, 1, 2, 5, 0, 4);
        x.drop(2);
        lineIs("6: dropped slots are not in it", x, 3, 1, 5, 0, 4);
        x.drop(3);
        x.drop(4);
        lineIs("6: its ends dropped", x, 1, 5, 0);
        Check.answers("6: far beyond", -1, () -> x.find(MIN, MAX, -1, -1, MAX));
    }

    private static void lineMovesWithFirstMarks() {
        RecordTimes x = new RecordTimes();
        x.slot(1, 100, 1, 1, 0, 0);
        x.slot(2, 200, 1, 2, 0, 0);
        x.slot(1, 300, 1, 3, 0, 0);
        x.slot(0, 50, 1, 4, 0, 0);
        lineIs("6: before marks", x, 3, 0, 1, 2);
        x.mark(2, 200, 0);
        lineIs("6: source 2 moved back", x, 1, 3, 0, 2);
        x.mark(0, 0, 1000);
        lineIs("6: source 0 moved on", x, 1, 0, 2, 3);
        x.mark(0, 1000, 0);
        lineIs("6: a second mark moves nothing", x, 1, 0, 2, 3);
        x.mark(1, 1000, 700);
        lineIs("6: of the same time by sources", x, 0, 2, 1, 3);
        x.slot(2, 199, 1, 5, 0, 0);
        lineIs("6: a later slot stands by true time", x, 0, 4, 2, 1, 3);
    }

    private static void findSpans() {
        RecordTimes x = new RecordTimes();
        x.slot(0, 10, 4, 0, 0, 0);
        Check.answers("6: its last byte", 0, () -> x.find(13, 14, -1, -1, 0));
        Check.answers("6: behind it", -1, () -> x.find(14, 20, -1, -1, 0));
        Check.answers("6: its first byte", 0, () -> x.find(0, 11, -1, -1, 0));
        Check.answers("6: before it", -1, () -> x.find(0, 10, -1, -1, 0));
        Check.answers("6: within it", 0, () -> x.find(11, 12, -1, -1, 0));
        Check.answers("6: an empty span within it", -1, () -> x.find(12, 12, -1, -1, 0));
        Check.answers("6: a span turned round", -1, () -> x.find(13, 11, -1, -1, 0));
        Check.answers("6: the widest one turned round", -1, () -> x.find(MAX, MIN, -1, -1, 0));
        x.slot(0, 13, 2, 0, 0, 0);
        Check.answers("6: only those with a byte are numbered", 1, () -> x.find(14, 15, -1, -1, 0));
        Check.answers("6: both", 1, () -> x.find(13, 14, -1, -1, 1));
        x.poke(0, 0, 1);
        Check.answers("6: altered bytes are there too", 0, () -> x.find(10, 11, -1, -1, 0));
    }

    private static void findUnitsAndIncidents() {
        RecordTimes x = new RecordTimes();
        x.slot(0, 30, 1, 0, 0, 0);
        x.slot(0, 20, 1, 0, 99, 49);
        x.slot(0, 10, 1, 0, 99, 0);
        x.slot(0, 5, 1, 0, 0, 49);
        Check.answers("6: unit 99 first", 2, () -> x.find(0, 99, 99, -1, 0));
        Check.answers("6: unit 99 second", 1, () -> x.find(0, 99, 99, -1, 1));
        Check.answers("6: unit 99 no more", -1, () -> x.find(0, 99, 99, -1, 2));
        Check.answers("6: unit 0 is not any", 3, () -> x.find(0, 99, 0, -1, 0));
        Check.answers("6: unit 0 second", 0, () -> x.find(0, 99, 0, -1, 1));
        Check.answers("6: incident 49 first", 3, () -> x.find(0, 99, -1, 49, 0));
        Check.answers("6: incident 0 first", 2, () -> x.find(0, 99, -1, 0, 0));
        Check.answers("6: incident 0 second", 0, () -> x.find(0, 99, -1, 0, 1));
        Check.answers("6: both", 1, () -> x.find(0, 99, 99, 49, 0));
        Check.answers("6: both, no more", -1, () -> x.find(0, 99, 99, 49, 1));
        Check.answers("6: neither", -1, () -> x.find(0, 99, 1, 1, 0));
    }

    private static void findRefusals() {
        RecordTimes x = new RecordTimes();
        x.slot(0, 0, 1, 0, 0, 0);
        for (int bad : new int[] {-2, 100, MIN, MAX}) {
            Check.refuses("6: unit " + bad, Check.UNKNOWN, () -> x.find(0, 1, bad, -1, 0));
            Check.refuses("6: unit before range", Check.UNKNOWN, () -> x.find(0, 1, bad, 0, -1));
        }
        for (int bad : new int[] {-2, 50, MIN, MAX}) {
            Check.refuses("6: incident " + bad, Check.UNKNOWN, () -> x.find(0, 1, -1, bad, 0));
            Check.refuses("6: incident before range", Check.UNKNOWN, () -> x.find(0, 1, 0, bad, -1));
        }
        Check.refuses("6: i below 0", Check.RANGE, () -> x.find(0, 1, -1, -1, -1));
        Check.refuses("6: the lowest i", Check.RANGE, () -> x.find(0, 1, 0, 0, MIN));
    }

    private static void times() {
        RecordTimes x = new RecordTimes();
        x.slot(3, 500, 2, 0, 0, 0);
        x.slot(4, LAST, 8, 0, 0, 0);
        x.slot(5, 0, 8, 0, 0, 0);
        Check.answers("7: without a mark", 500, () -> x.time(0));
        x.mark(3, 10, 0);
        x.mark(3, 10, 100);
        x.mark(4, 0, LAST);
        x.mark(5, LAST, 0);
        Check.answers("7: with an offset", 490, () -> x.time(0));
        Check.answers("7: the latest", 2 * LAST, () -> x.time(1));
        Check.answers("7: the earliest", -LAST, () -> x.time(2));
        x.drop(0);
        Check.refuses("7: dropped", Check.STATE, () -> x.time(0));
        for (int bad : new int[] {-1, 3, 200, MIN, MAX}) {
            Check.refuses("7: slot " + bad, Check.UNKNOWN, () -> x.time(bad));
        }
    }

    private static void sums() {
        RecordTimes x = new RecordTimes();
        x.slot(1, 100, 4, 1684234849L, 3, 7);
        x.slot(1, 100, 2, 0L, 3, 7);
        x.slot(1, 100, 2, 0x80FFL, 3, 7);
        Check.answers("8: a sum of the shared tests", 604929166, () -> x.sum(0));
        Check.answers("8: zeros", 0, () -> x.sum(1));
        Check.answers("8: high bytes are not negative", Check.sumOf(0x80, 0xFF), () -> x.sum(2));
        x.poke(0, 1, 128);
        Check.answers("8: as they are now", -1624401667, () -> x.sum(0));
        x.drop(0);
        Check.refuses("8: dropped", Check.STATE, () -> x.sum(0));
        for (int bad : new int[] {-1, 3, 200, MIN, MAX}) {
            Check.refuses("8: slot " + bad, Check.UNKNOWN, () -> x.sum(bad));
        }
    }

    private static void parts() {
        RecordTimes x = new RecordTimes();
        x.slot(2, 1000, 5, 0x0102030405L, 0, 0);
        x.mark(2, 1000, 10);
        Check.answers("9: the middle", Check.sumOf(2, 3), () -> x.part(0, 11, 13));
        Check.answers("9: from before it", Check.sumOf(1, 2), () -> x.part(0, -5, 12));
        Check.answers("9: to behind it", Check.sumOf(5), () -> x.part(0, 14, 900));
        Check.answers("9: all", x.sum(0), () -> x.part(0, 10, 15));
        Check.answers("9: all and more", x.sum(0), () -> x.part(0, MIN, MAX));
        Check.answers("9: before it", 0, () -> x.part(0, 0, 10));
        Check.answers("9: behind it", 0, () -> x.part(0, 15, 16));
        Check.answers("9: empty", 0, () -> x.part(0, 12, 12));
        Check.answers("9: turned round", 0, () -> x.part(0, 14, 11));
        Check.answers("9: clock times are not true ones", 0, () -> x.part(0, 1000, 1005));
        x.poke(0, 2, 0xF0);
        Check.answers("9: as they are now", Check.sumOf(0xF3), () -> x.part(0, 12, 13));
        x.drop(0);
        Check.refuses("9: dropped", Check.STATE, () -> x.part(0, 11, 13));
        Check.refuses("9: dropped, empty span", Check.STATE, () -> x.part(0, 0, 0));
        for (int bad : new int[] {-1, 1, 200, MIN, MAX}) {
            Check.refuses("9: slot " + bad, Check.UNKNOWN, () -> x.part(bad, 0, 1));
        }
    }

    private static void sizes() {
        RecordTimes x = new RecordTimes();
        x.slot(0, 10, 4, 0, 0, 0);
        x.slot(1, 12, 8, 0, 0, 0);
        x.slot(0, 12, 2, 0, 0, 0);
        Check.answers("10: all", 14, () -> x.size(MIN, MAX));
        Check.answers("10: one second of three slots", 3, () -> x.size(12, 13));
        Check.answers("10: the end is outside", 2, () -> x.size(10, 12));
        Check.answers("10: from is inside", 5, () -> x.size(15, 99));
        Check.answers("10: empty", 0, () -> x.size(12, 12));
        Check.answers("10: turned round takes nothing away", 0, () -> x.size(14, 11));
        x.mark(1, 12, 1012);
        Check.answers("10: true times", 6, () -> x.size(0, 1000));
        x.drop(0);
        Check.answers("10: without the dropped", 2, () -> x.size(0, 1000));
    }

    private static void exports() {
        RecordTimes x = new RecordTimes();
        x.slot(1, 20, 3, 0x0A0B0CL, 0, 0);
        x.slot(0, 20, 2, 0x0102L, 0, 0);
        x.slot(5, 19, 4, 0xF1F2F3F4L, 0, 0);
        Check.answers("11: one behind the other", Check.sumOf(0xF1, 0xF2, 0xF3, 0xF4, 1, 2, 10, 11, 12),
                () -> x.export(MIN, MAX));
        Check.answers("11: of a span", Check.sumOf(0xF3, 0xF4, 2, 11, 12), () -> x.export(21, 30));
        Check.answers("11: empty", 0, () -> x.export(21, 21));
        Check.answers("11: turned round", 0, () -> x.export(30, 10));
        Check.answers("11: outside", 0, () -> x.export(23, 99));
        x.mark(5, 0, 5);
        Check.answers("11: as in the line now", Check.sumOf(1, 2, 10, 11, 12, 0xF1, 0xF2, 0xF3, 0xF4),
                () -> x.export(0, 99));
        x.poke(0, 1, 1);
        x.drop(1);
        Check.answers("11: altered and dropped", Check.sumOf(10, 10, 12, 0xF1, 0xF2, 0xF3, 0xF4),
                () -> x.export(0, 99));
    }

    private static void holds() {
        RecordTimes x = new RecordTimes();
        Check.refuses("12: no hold is so", Check.STATE, () -> x.hold(0, false));
        Check.passes("12: on", () -> x.hold(0, true));
        Check.refuses("12: it is so", Check.STATE, () -> x.hold(0, true));
        Check.passes("12: another", () -> x.hold(49, true));
        Check.passes("12: off", () -> x.hold(0, false));
        Check.refuses("12: off again", Check.STATE, () -> x.hold(0, false));
        Check.refuses("12: the other stays", Check.STATE, () -> x.hold(49, true));
        for (int bad : new int[] {-1, 50, MIN, MAX}) {
            Check.refuses("12: incident " + bad, Check.UNKNOWN, () -> x.hold(bad, true));
            Check.refuses("12: incident off " + bad, Check.UNKNOWN, () -> x.hold(bad, false));
        }
    }

    private static void drops() {
        RecordTimes x = new RecordTimes();
        x.slot(0, 0, 1, 1, 0, 7);
        x.slot(0, 1, 1, 2, 0, 8);
        x.slot(0, 2, 1, 3, 0, 7);
        x.hold(7, true);
        Check.refuses("13: under a hold", Check.STATE, () -> x.drop(0));
        Check.answers("13: refused, it stays", 0, () -> x.time(0));
        Check.answers("13: no certificate came", 0, () -> x.count(3));
        Check.answers("13: another incident", 0, () -> x.drop(1));
        Check.refuses("13: twice", Check.STATE, () -> x.drop(1));
        x.hold(7, false);
        Check.answers("13: after the hold", 1, () -> x.drop(2));
        x.hold(7, true);
        Check.refuses("13: dropped and held", Check.STATE, () -> x.drop(2));
        Check.answers("13: two certificates", 2, () -> x.count(3));
        Check.answers("13: one is there", 1, () -> x.count(1));
        Check.answers("13: three were made", 3, () -> x.count(0));
        Check.answers("13: a new slot has a new number", 3, () -> x.slot(0, 0, 1, 0, 0, 0));
        for (int bad : new int[] {-1, 4, 200, MIN, MAX}) {
            Check.refuses("13: slot " + bad, Check.UNKNOWN, () -> x.drop(bad));
        }
    }

    private static void certificates() {
        RecordTimes x = new RecordTimes();
        x.slot(0, 0, 2, 0x0102, 0, 0);
        x.slot(0, 0, 2, 0x0304, 0, 0);
        x.poke(1, 0, 0x70);
        x.drop(1);
        x.drop(0);
        Check.answers("14: its slot", 1, () -> x.certificate(0, 0));
        Check.answers("14: the kept sum", Check.sumOf(3, 4), () -> x.certificate(0, 1));
        Check.answers("14: the sum as dropped", Check.sumOf(0x73, 4), () -> x.certificate(0, 2));
        Check.answers("14: the next one's slot", 0, () -> x.certificate(1, 0));
        Check.answers("14: its kept sum", Check.sumOf(1, 2), () -> x.certificate(1, 1));
        Check.answers("14: its sum", Check.sumOf(1, 2), () -> x.certificate(1, 2));
        for (int bad : new int[] {-1, 2, 200, MIN, MAX}) {
            Check.refuses("14: certificate " + bad, Check.UNKNOWN, () -> x.certificate(bad, 0));
        }
        for (int bad : new int[] {-1, 3, MIN, MAX}) {
            Check.refuses("14: what " + bad, Check.UNKNOWN, () -> x.certificate(0, bad));
        }
    }

    private static void rights() {
        RecordTimes x = new RecordTimes();
        x.slot(0, 0, 1, 9, 0, 49);
        x.slot(0, 0, 1, 9, 0, 0);
        Check.passes("15: on", () -> x.right(19, 49, true));
        Check.passes("15: on once more", () -> x.right(19, 49, true));
        Check.answers("15: may listen", Check.sumOf(9), () -> x.listen(19, 0));
        Check.refuses("15: not to another incident", Check.STATE, () -> x.listen(19, 1));
        Check.refuses("15: nor may another person", Check.STATE, () -> x.listen(18, 0));
        Check.passes("15: off", () -> x.right(19, 49, false));
        Check.passes("15: off once more", () -> x.right(19, 49, false));
        Check.refuses("15: no right any more", Check.STATE, () -> x.listen(19, 0));
        for (int bad : new int[] {-1, 20, MIN, MAX}) {
            Check.refuses("15: person " + bad, Check.UNKNOWN, () -> x.right(bad, 0, true));
        }
        for (int bad : new int[] {-1, 50, MIN, MAX}) {
            Check.refuses("15: incident " + bad, Check.UNKNOWN, () -> x.right(1, bad, true));
            Check.refuses("15: incident off " + bad, Check.UNKNOWN, () -> x.right(1, bad, false));
        }
        Check.refuses("15: refused rights give none", Check.STATE, () -> x.listen(2, 1));
        Check.refuses("15: nor to neighbours", Check.STATE, () -> x.listen(0, 0));
    }

    private static void listening() {
        RecordTimes x = new RecordTimes();
        x.slot(0, 0, 2, 0x0506, 0, 3);
        x.right(4, 3, true);
        Check.answers("16: the sum", Check.sumOf(5, 6), () -> x.listen(4, 0));
        x.poke(0, 1, 1);
        Check.answers("16: the sum now", Check.sumOf(5, 7), () -> x.listen(4, 0));
        x.hold(3, true);
        Check.answers("16: under a hold", Check.sumOf(5, 7), () -> x.listen(4, 0));
        Check.refuses("16: no right", Check.STATE, () -> x.listen(5, 0));
        x.hold(3, false);
        x.drop(0);
        Check.refuses("16: dropped", Check.STATE, () -> x.listen(4, 0));
        Check.refuses("16: dropped and no right", Check.STATE, () -> x.listen(5, 0));
        Check.answers("16: a row of each", 6, () -> x.count(4));
        for (int bad : new int[] {-1, 20, MIN, MAX}) {
            Check.refuses("16: person " + bad, Check.UNKNOWN, () -> x.listen(bad, 0));
        }
        for (int bad : new int[] {-1, 1, 200, MIN, MAX}) {
            Check.refuses("16: slot " + bad, Check.UNKNOWN, () -> x.listen(4, bad));
        }
        Check.answers("16: unknown ones leave no row", 6, () -> x.count(4));
        int[] allowed = {1, 1, 1, 0, 0, 0};
        for (int k = 0; k < 6; k++) {
            int i = k;
            Check.answers("17: allowed " + k, allowed[k], () -> x.row(i, 2));
            Check.answers("17: person " + k, k == 3 || k == 5 ? 5 : 4, () -> x.row(i, 0));
        }
    }

    private static void rows() {
        RecordTimes x = new RecordTimes();
        x.slot(0, 0, 1, 0, 0, 0);
        x.slot(0, 0, 1, 0, 0, 1);
        x.slot(0, 0, 1, 0, 0, 0);
        for (int person = 0; person < 20; person += 2) {
            x.right(person, 0, true);
        }
        int ever = 0;
        while (ever < 430) {
            int i = ever;
            if (i % 2 == 0 && i % 3 != 1) {
                Check.answers("16: try " + i, 0, () -> x.listen(i % 20, i % 3));
            } else {
                Check.refuses("16: try " + i, Check.STATE, () -> x.listen(i % 20, i % 3));
            }
            ever++;
            if (ever == 1 || ever == 199 || ever == 200 || ever == 201 || ever == 400 || ever == 430) {
                rowsAre(x, ever);
            }
        }
        for (int bad : new int[] {-1, 3, MIN, MAX}) {
            Check.refuses("17: what " + bad, Check.UNKNOWN, () -> x.row(429, bad));
        }
        for (int bad : new int[] {-1, 430, 229, MIN, MAX}) {
            Check.refuses("17: row " + bad, Check.UNKNOWN, () -> x.row(bad, 0));
        }
    }

    private static void rowsAre(RecordTimes x, int ever) {
        Check.answers("20: rows ever", ever, () -> x.count(4));
        for (int k = -1; k <= ever; k++) {
            int i = k;
            if (i < 0 || i >= ever || i < ever - 200) {
                Check.refuses("17: row " + i + " of " + ever, Check.UNKNOWN, () -> x.row(i, 0));
            } else {
                Check.answers("17: person of row " + i + " of " + ever, i % 20, () -> x.row(i, 0));
                Check.answers("17: slot of row " + i + " of " + ever, i % 3, () -> x.row(i, 1));
                Check.answers("17: allowed in row " + i + " of " + ever, i % 2 == 0 && i % 3 != 1 ? 1 : 0,
                        () -> x.row(i, 2));
            }
        }
    }

    private static void pokes() {
        RecordTimes x = new RecordTimes();
        x.slot(0, 0, 8, 0x0102030405060708L, 0, 0);
        x.slot(0, 0, 3, 0x010203L, 0, 0);
        Check.passes("18: the first byte", () -> x.poke(0, 0, 255));
        Check.answers("18: it is altered", Check.sumOf(254, 2, 3, 4, 5, 6, 7, 8), () -> x.sum(0));
        Check.passes("18: the last byte", () -> x.poke(0, 7, 1));
        Check.answers("18: it too", Check.sumOf(254, 2, 3, 4, 5, 6, 7, 9), () -> x.sum(0));
        Check.passes("18: a short slot's first", () -> x.poke(1, 0, 0x80));
        Check.answers("18: its sum", Check.sumOf(0x81, 2, 3), () -> x.sum(1));
        Check.passes("18: the same mask", () -> x.poke(1, 0, 0x80));
        Check.answers("18: as before", Check.sumOf(1, 2, 3), () -> x.sum(1));
        for (int bad : new int[] {-1, 3, 8, MIN, MAX}) {
            Check.refuses("18: byte " + bad, Check.RANGE, () -> x.poke(1, bad, 1));
        }
        for (int bad : new int[] {0, 256, -1, MIN, MAX}) {
            Check.refuses("18: mask " + bad, Check.RANGE, () -> x.poke(1, 0, bad));
        }
        for (int bad : new int[] {-1, 2, 200, MIN, MAX}) {
            Check.refuses("18: slot " + bad, Check.UNKNOWN, () -> x.poke(bad, 0, 1));
            Check.refuses("18: slot before range", Check.UNKNOWN, () -> x.poke(bad, -1, 0));
        }
        Check.answers("18: refused ones alter nothing", Check.sumOf(1, 2, 3), () -> x.sum(1));
        x.drop(1);
        Check.refuses("18: dropped", Check.STATE, () -> x.poke(1, 0, 1));
        Check.refuses("18: range before state, byte", Check.RANGE, () -> x.poke(1, 3, 1));
        Check.refuses("18: range before state, mask", Check.RANGE, () -> x.poke(1, 0, 0));
        Check.answers("18: its certificate stays", Check.sumOf(1, 2, 3), () -> x.certificate(0, 2));
    }

    private static void verifying() {
        RecordTimes x = new RecordTimes();
        x.slot(0, 300, 2, 0, 0, 0);
        x.slot(0, 200, 2, 0, 0, 0);
        x.slot(0, 100, 2, 0, 0, 0);
        Check.answers("19: none", -1, x::verify);
        x.poke(2, 0, 1);
        Check.answers("19: the only one", 2, x::verify);
        x.poke(1, 1, 1);
        Check.answers("19: the lowest, not the line's first", 1, x::verify);
        x.drop(1);
        Check.answers("19: not a dropped one", 2, x::verify);
        x.poke(2, 0, 1);
        Check.answers("19: the bytes are back", -1, x::verify);
        x.poke(0, 0, 3);
        x.poke(0, 0, 1);
        Check.answers("19: not wholly back", 0, x::verify);
        x.poke(0, 0, 2);
        x.mark(0, 0, 5);
        Check.answers("19: marks alter no bytes", -1, x::verify);
    }

    private static void counts() {
        RecordTimes x = new RecordTimes();
        for (int k = 0; k < 6; k++) {
            x.slot(0, k, 1, k, 0, 0);
        }
        x.drop(2);
        x.drop(4);
        for (int k = 0; k < 5; k++) {
            x.mark(1, k, k);
        }
        x.right(0, 0, true);
        x.listen(0, 0);
        Check.refuses("20: a refused try", Check.STATE, () -> x.listen(1, 0));
        Check.refuses("20: of a dropped slot", Check.STATE, () -> x.listen(0, 2));
        Check.answers("20: slots", 6, () -> x.count(0));
        Check.answers("20: there", 4, () -> x.count(1));
        Check.answers("20: marks", 5, () -> x.count(2));
        Check.answers("20: certificates", 2, () -> x.count(3));
        Check.answers("20: rows", 3, () -> x.count(4));
        for (int bad : new int[] {-1, 5, MIN, MAX}) {
            Check.refuses("20: what " + bad, Check.UNKNOWN, () -> x.count(bad));
        }
    }

    private static void spansAtTheEndsOfInt() {
        RecordTimes x = new RecordTimes();
        x.slot(0, 0, 8, 0x0102030405060708L, 0, 0);
        x.slot(1, LAST, 8, 0x0102030405060708L, 0, 0);
        x.mark(0, LAST, 0);
        x.mark(1, 0, LAST);
        for (int edge : new int[] {MIN, MAX}) {
            Check.answers("10: nothing at " + edge, 0, () -> x.size(edge, edge));
            Check.answers("11: nothing at " + edge, 0, () -> x.export(edge, edge));
            Check.answers("9: nothing at " + edge, 0, () -> x.part(0, edge, edge));
        }
        Check.answers("10: below 0", 8, () -> x.size(MIN, 0));
        Check.answers("10: from 0", 8, () -> x.size(0, MAX));
        Check.answers("10: the widest turned round", 0, () -> x.size(MAX, MIN));
        Check.answers("11: the widest turned round", 0, () -> x.export(MAX, MIN));
        Check.answers("9: the earliest bytes", Check.sumOf(1, 2), () -> x.part(0, MIN, -LAST + 2));
        Check.answers("9: the latest bytes", Check.sumOf(7, 8), () -> x.part(1, 2 * LAST + 6, MAX));
        Check.answers("9: the earliest slot late", 0, () -> x.part(0, MAX - 5, MAX));
        Check.answers("9: the latest slot early", 0, () -> x.part(1, MIN, MIN + 5));
    }

    /** What calls beyond the 512th answer is free, but nothing may break in them. */
    private static void manyCalls() {
        RecordTimes x = new RecordTimes();
        x.slot(0, 0, 1, 0, 0, 0);
        x.right(0, 0, true);
        for (int k = 0; k < 2000; k++) {
            int i = k;
            Check.answers("16: many", 0, () -> x.listen(0, 0));
            Check.answers("17: many", 1, () -> x.row(i, 2));
        }
    }
}
