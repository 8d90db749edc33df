/** Each sentence of the document's "Terms" has a test of its own, or several; RefusalTest and MemoryTest have its first and last. */
public final class TermsTest {
    private static final int MIN = Integer.MIN_VALUE;
    private static final int MAX = Integer.MAX_VALUE;
    private static final int LAST = 9999999;

    public static void main(String[] args) {
        timesGoFromFirstToLast();
        timesOfMarksGoFromFirstToLast();
        sourcesAreTen();
        slotsAreAtMost200();
        droppedSlotsMakeNoRoom();
        slotsAreOfASource();
        slotsBeginAtATimeOfTheClock();
        bytesAreOneToEight();
        bytesAreOneASecond();
        unitsAreAHundred();
        incidentsAreFifty();
        slotsAreThereOrDropped();
        sumBeginsWithZero();
        sumTakesBytesTo255();
        sumTurnsAndWrapsIn32Bits();
        markTellsTheTrueTime();
        offsetIsOfTheFirstMark();
        offsetIsZeroWithoutAMark();
        trueTimeMayBeBelowZero();
        trueTimeMayBeBehindTheLastTime();
        marksAreAtMost60();
        contradictionIsAnyOtherOffset();
        contradictionIsOfTheSameSource();
        lineIsByTrueTimes();
        lineOfTheSameTimeIsBySources();
        lineOfTheSameSourceIsByNumbers();
        lineHasAllThatAreThere();
        lineOfManyIsInOrder();
        lineOfManyMovesWithMarks();
        spanIsFromOrLater();
        spanIsBeforeTo();
        spanMayBeEmptyOrTurnedRound();
        spanMayEndAtTheEndsOfInt();
        spanReachesTheEarliestAndTheLatest();
        holdsAreOfIncidents();
        personsAreTwenty();
        rightsAreOfSomeIncidents();
        rowsAreOfEachTry();
        rowsKeptAreAtMost200();
        sumIsKeptFromTheBeginningOn();
        badIsAnotherSumNow();
        sameSumOfOtherBytesIsNotBad();
        Check.finish();
    }

    private static void timesGoFromFirstToLast() {
        Check.sentence("TIMES are in seconds, 0 .. 9,999,999: slot");
        Counted x = new Counted();
        Check.answers("time 0", 0, () -> x.slot(0, 0, 1, 1, 0, 0));
        Check.answers("time 9,999,999", 1, () -> x.slot(0, LAST, 1, 1, 0, 0));
        Check.refuses("time -1", Check.RANGE, () -> x.slot(0, -1, 1, 1, 0, 0));
        Check.refuses("time 10,000,000", Check.RANGE, () -> x.slot(0, LAST + 1, 1, 1, 0, 0));
        Check.refuses("lowest int", Check.RANGE, () -> x.slot(0, MIN, 1, 1, 0, 0));
        Check.refuses("highest int", Check.RANGE, () -> x.slot(0, MAX, 1, 1, 0, 0));
        Check.answers("first begins at 0", 0, () -> x.time(0));
        Check.answers("second begins at the last time", LAST, () -> x.time(1));
        Check.answers("no third", 2, () -> x.count(0));
    }

    private static void timesOfMarksGoFromFirstToLast() {
        Check.sentence("TIMES are in seconds, 0 .. 9,999,999: mark");
        Counted x = new Counted();
        Check.answers("clock and true 0", 0, () -> x.mark(0, 0, 0));
        Check.answers("clock 9,999,999", 1, () -> x.mark(1, LAST, 5));
        Check.answers("true 9,999,999", 2, () -> x.mark(2, 5, LAST));
        for (int bad : new int[] {-1, LAST + 1, MIN, MAX}) {
            Check.refuses("clock " + bad, Check.RANGE, () -> x.mark(3, bad, 5));
            Check.refuses("true " + bad, Check.RANGE, () -> x.mark(3, 5, bad));
            Check.refuses("both " + bad, Check.RANGE, () -> x.mark(3, bad, bad));
        }
        Check.answers("no fourth", 3, () -> x.count(2));
        Check.answers("offset by the last clock", 5 - LAST, () -> x.offset(1));
        Check.answers("offset by the last true time", LAST - 5, () -> x.offset(2));
        Check.answers("refused ones give none", 0, () -> x.offset(3));
    }

    private static void sourcesAreTen() {
        Check.sentence("SOURCES 0 .. 9");
        Counted x = new Counted();
        for (int source : new int[] {0, 9}) {
            Check.passes("slot of " + source, () -> x.slot(source, 0, 1, 1, 0, 0));
            Check.passes("mark of " + source, () -> x.mark(source, 1, 2 + source));
            Check.answers("offset of " + source, 1 + source, () -> x.offset(source));
        }
        for (int bad : new int[] {-1, 10, MIN, MAX}) {
            Check.refuses("slot of " + bad, Check.UNKNOWN, () -> x.slot(bad, 0, 1, 1, 0, 0));
            Check.refuses("mark of " + bad, Check.UNKNOWN, () -> x.mark(bad, 1, 2));
            Check.refuses("offset of " + bad, Check.UNKNOWN, () -> x.offset(bad));
        }
        Check.answers("two slots", 2, () -> x.count(0));
        Check.answers("two marks", 2, () -> x.count(2));
    }

    private static void slotsAreAtMost200() {
        Check.sentence("SLOTS 0, 1, .. (at most 200)");
        Counted x = new Counted();
        for (int k = 0; k < 200; k++) {
            int number = k;
            Check.answers("slot " + k, number, () -> x.slot(0, number, 1, number, 0, 0));
        }
        Check.refuses("the 201st", Check.NO_ROOM, () -> x.slot(0, 0, 1, 1, 0, 0));
        Check.answers("the first is there", Check.sumOf(0), () -> x.sum(0));
        Check.answers("the last is there", Check.sumOf(199), () -> x.sum(199));
        Check.answers("the last is on the line", 199, () -> x.find(MIN, MAX, -1, -1, 199));
        Check.refuses("there is no slot 200", Check.UNKNOWN, () -> x.time(200));
        Check.answers("200 slots", 200, () -> x.count(0));
        Check.answers("200 bytes", 200, () -> x.size(MIN, MAX));
    }

    private static void droppedSlotsMakeNoRoom() {
        Check.sentence("SLOTS 0, 1, .. (at most 200) ..; they are there, or DROPPED");
        Counted x = new Counted();
        fillSlots(x, 200);
        for (int k = 0; k < 200; k++) {
            int number = k;
            Check.answers("drop " + k, number, () -> x.drop(number));
        }
        Check.refuses("all are dropped, none has gone", Check.NO_ROOM, () -> x.slot(0, 0, 1, 1, 0, 0));
        Check.answers("200 slots", 200, () -> x.count(0));
        Check.answers("none there", 0, () -> x.count(1));
        Check.answers("200 certificates", 200, () -> x.count(3));
        Check.answers("the last certificate", 199, () -> x.certificate(199, 0));
        Check.answers("an empty line", -1, () -> x.find(MIN, MAX, -1, -1, 0));
        Check.answers("no bytes", 0, () -> x.size(MIN, MAX));
        Check.answers("their sum", 0, () -> x.export(MIN, MAX));
        Check.answers("none is bad", -1, x::verify);
    }

    private static void slotsAreOfASource() {
        Check.sentence("SLOTS .. are of a source");
        Counted x = new Counted();
        for (int source = 0; source < 10; source++) {
            x.slot(source, 1000, 1, source, 0, 0);
        }
        for (int source = 9; source >= 0; source--) {
            int s = source;
            x.mark(s, 0, 10 * s + 1);
            Check.answers("its own mark moves it", 1001 + 10 * s, () -> x.time(s));
            for (int other = 0; other < s; other++) {
                int o = other;
                Check.answers("a mark of " + s + " does not move a slot of " + o, 1000, () -> x.time(o));
            }
        }
        x.slot(3, 2000, 1, 1, 0, 0);
        Check.answers("one made behind the mark is of the source too", 2031, () -> x.time(10));
    }

    private static void slotsBeginAtATimeOfTheClock() {
        Check.sentence("SLOTS .. begin at a time of its CLOCK");
        Counted x = new Counted();
        x.mark(0, 0, 500);
        Check.answers("the clock shows 0, truly it is 500", 0, () -> x.slot(0, 0, 2, 0x0102L, 0, 0));
        Check.answers("begins truly at 500", 500, () -> x.time(0));
        Check.answers("not at 0", 0, () -> x.part(0, 0, 500));
        x.mark(1, LAST, 0);
        Check.answers("the range is the clock's, not the true times'", 1, () -> x.slot(1, 5, 1, 1, 0, 0));
        Check.answers("truly far below 0", 5 - LAST, () -> x.time(1));
        x.mark(2, 0, LAST);
        Check.answers("nor above", 2, () -> x.slot(2, LAST, 1, 1, 0, 0));
        Check.refuses("a true time that no clock shows", Check.RANGE, () -> x.slot(1, 5 - LAST, 1, 1, 0, 0));
        Check.refuses("nor above", Check.RANGE, () -> x.slot(2, 2 * LAST, 1, 1, 0, 0));
    }

    private static void bytesAreOneToEight() {
        Check.sentence("have 1 .. 8 BYTES");
        Counted x = new Counted();
        for (int n = 1; n <= 8; n++) {
            int length = n;
            Check.answers("n " + n, length - 1, () -> x.slot(0, 100 * length, length, -1L, 0, 0));
            Check.answers("so many bytes", length, () -> x.size(100 * length - 50, 100 * length + 50));
        }
        for (int bad : new int[] {0, 9, -1, MIN, MAX}) {
            Check.refuses("n " + bad, Check.RANGE, () -> x.slot(0, 0, bad, 1, 0, 0));
        }
        Check.answers("eight slots", 8, () -> x.count(0));
    }

    private static void bytesAreOneASecond() {
        Check.sentence("have 1 .. 8 BYTES, one a second");
        Counted x = new Counted();
        x.slot(0, 100, 8, 0x0102030405060708L, 0, 0);
        for (int k = 0; k < 8; k++) {
            int i = k;
            Check.answers("byte " + i, Check.sumOf(i + 1), () -> x.part(0, 100 + i, 101 + i));
            Check.answers("one byte in second " + i, 1, () -> x.size(100 + i, 101 + i));
        }
        Check.answers("none a second before", 0, () -> x.size(99, 100));
        Check.answers("none a second behind", 0, () -> x.size(108, 109));
    }

    private static void unitsAreAHundred() {
        Check.sentence("a unit (0 .. 99)");
        Counted x = new Counted();
        Check.answers("unit 0", 0, () -> x.slot(0, 0, 1, 1, 0, 0));
        Check.answers("unit 99", 1, () -> x.slot(0, 0, 1, 1, 99, 0));
        Check.answers("found by unit 0", 0, () -> x.find(0, 1, 0, -1, 0));
        Check.answers("found by unit 99", 1, () -> x.find(0, 1, 99, -1, 0));
        for (int bad : new int[] {-1, 100, MIN, MAX}) {
            Check.refuses("slot of unit " + bad, Check.UNKNOWN, () -> x.slot(0, 0, 1, 1, bad, 0));
        }
        for (int bad : new int[] {-2, 100, MIN, MAX}) {
            Check.refuses("find of unit " + bad, Check.UNKNOWN, () -> x.find(0, 1, bad, -1, 0));
        }
        Check.answers("two slots", 2, () -> x.count(0));
    }

    private static void incidentsAreFifty() {
        Check.sentence("an incident (0 .. 49)");
        Counted x = new Counted();
        Check.answers("incident 0", 0, () -> x.slot(0, 0, 1, 1, 0, 0));
        Check.answers("incident 49", 1, () -> x.slot(0, 0, 1, 1, 0, 49));
        Check.answers("found by incident 0", 0, () -> x.find(0, 1, -1, 0, 0));
        Check.answers("found by incident 49", 1, () -> x.find(0, 1, -1, 49, 0));
        for (int incident : new int[] {0, 49}) {
            Check.passes("hold on " + incident, () -> x.hold(incident, true));
            Check.passes("right on " + incident, () -> x.right(0, incident, true));
        }
        for (int bad : new int[] {-1, 50, MIN, MAX}) {
            Check.refuses("slot of incident " + bad, Check.UNKNOWN, () -> x.slot(0, 0, 1, 1, 0, bad));
            Check.refuses("hold on " + bad, Check.UNKNOWN, () -> x.hold(bad, true));
            Check.refuses("right on " + bad, Check.UNKNOWN, () -> x.right(0, bad, true));
        }
        for (int bad : new int[] {-2, 50, MIN, MAX}) {
            Check.refuses("find of incident " + bad, Check.UNKNOWN, () -> x.find(0, 1, -1, bad, 0));
        }
        Check.answers("two slots", 2, () -> x.count(0));
    }

    private static void slotsAreThereOrDropped() {
        Check.sentence("they are there, or DROPPED");
        Counted x = new Counted();
        x.slot(0, 10, 2, 0x0102L, 1, 2);
        x.slot(0, 10, 2, 0x0304L, 1, 2);
        x.poke(0, 0, 1);
        x.drop(0);
        Check.refuses("time", Check.STATE, () -> x.time(0));
        Check.refuses("sum", Check.STATE, () -> x.sum(0));
        Check.refuses("part", Check.STATE, () -> x.part(0, 0, 99));
        Check.refuses("drop", Check.STATE, () -> x.drop(0));
        Check.refuses("poke", Check.STATE, () -> x.poke(0, 0, 1));
        Check.answers("not found", 1, () -> x.find(0, 99, 1, 2, 0));
        Check.answers("nor later", -1, () -> x.find(0, 99, 1, 2, 1));
        Check.answers("no bytes of it", 2, () -> x.size(0, 99));
        Check.answers("nor in the sum", Check.sumOf(3, 4), () -> x.export(0, 99));
        Check.answers("not bad any more", -1, x::verify);
        x.right(0, 2, true);
        Check.refuses("listen", Check.STATE, () -> x.listen(0, 0));
        Check.answers("the other one is there", 10, () -> x.time(1));
    }

    private static void sumBeginsWithZero() {
        Check.sentence("The SUM of bytes is s = 0, then for each b");
        Counted x = new Counted();
        x.slot(0, 0, 1, 0L, 0, 0);
        x.slot(0, 10, 8, 0L, 0, 0);
        x.slot(0, 20, 8, 1L, 0, 0);
        x.slot(0, 30, 1, 1L, 0, 0);
        Check.answers("one byte of 0", 0, () -> x.sum(0));
        Check.answers("eight of them", 0, () -> x.sum(1));
        Check.answers("a 1 behind seven of them", -1116123808, () -> x.sum(2));
        Check.answers("a 1 alone", -1116123808, () -> x.sum(3));
        Check.answers("no bytes", 0, () -> x.part(3, 40, 50));
        Check.answers("each sum begins anew", -1116123808, () -> x.sum(3));
    }

    private static void sumTakesBytesTo255() {
        Check.sentence("for each b (0 .. 255)");
        Counted x = new Counted();
        int[] bytes = {0, 1, 127, 128, 255};
        int[] sums = {0, -1116123808, -13802848, -1129926656, -1143729504};
        for (int k = 0; k < bytes.length; k++) {
            int number = k;
            x.slot(0, 0, 1, bytes[k], 0, 0);
            Check.answers("byte " + bytes[k], sums[k], () -> x.sum(number));
        }
        x.slot(0, 0, 2, 0xFFFFL, 0, 0);
        Check.answers("255 twice", 321103421, () -> x.sum(5));
        x.slot(0, 0, 8, -1L, 0, 0);
        Check.answers("255 eight times", -688608357, () -> x.sum(6));
    }

    private static void sumTurnsAndWrapsIn32Bits() {
        Check.sentence("s = rotl(s xor b, 5) * 0x85EBCA6B in 32 bits");
        Counted x = new Counted();
        x.slot(0, 0, 2, 0x0100L, 0, 0);
        Check.answers("the highest bits come round", 72487837, () -> x.sum(0));
        x.slot(0, 0, 2, 0x8000L, 0, 0);
        Check.answers("of 128 too", 429993885, () -> x.sum(1));
        x.slot(0, 0, 8, 0x0102030405060708L, 0, 0);
        Check.answers("eight bytes", -1672177157, () -> x.sum(2));
        x.slot(0, 0, 8, 1L << 56, 0, 0);
        Check.answers("eight times round", 1577985351, () -> x.sum(3));
    }

    private static void markTellsTheTrueTime() {
        Check.sentence("A MARK tells that at a time of a source's clock it is another one truly");
        Counted x = new Counted();
        x.slot(6, 400, 8, 0x0102030405060708L, 0, 0);
        x.mark(6, 403, 73);
        Check.answers("the byte of that clock's time is truly at 73", Check.sumOf(4), () -> x.part(0, 73, 74));
        Check.answers("so are the others, as many seconds apart", 70, () -> x.time(0));
        x.slot(6, 403, 1, 9, 0, 0);
        Check.answers("a slot that begins at that time", 73, () -> x.time(1));
        x.slot(6, 402, 1, 9, 0, 0);
        x.slot(6, 0, 1, 9, 0, 0);
        Check.answers("one before the mark", 72, () -> x.time(2));
        Check.answers("the first time of the clock", -330, () -> x.time(3));
        x.slot(6, LAST, 1, 9, 0, 0);
        Check.answers("the last time of the clock", LAST - 330, () -> x.time(4));
        x.mark(7, 73, 403);
        x.slot(7, 73, 1, 9, 0, 0);
        Check.answers("a clock that is slow", 403, () -> x.time(5));
        x.mark(8, 50, 50);
        x.slot(8, 51, 1, 9, 0, 0);
        Check.answers("a clock that is right", 51, () -> x.time(6));
    }

    private static void offsetIsOfTheFirstMark() {
        Check.sentence("A source's OFFSET is true less clock of its first mark");
        Counted x = new Counted();
        x.mark(0, 0, LAST);
        x.mark(9, LAST, 0);
        x.mark(5, 7, 7);
        x.mark(4, 7, 8);
        x.mark(3, 8, 7);
        for (int source = 0; source < 10; source++) {
            x.mark(source, 100, 1100);
        }
        Check.answers("the highest", LAST, () -> x.offset(0));
        Check.answers("the lowest", -LAST, () -> x.offset(9));
        Check.answers("a first mark of 0 is one", 0, () -> x.offset(5));
        Check.answers("one above", 1, () -> x.offset(4));
        Check.answers("one below", -1, () -> x.offset(3));
        Check.answers("first marks that came late", 1000, () -> x.offset(1));
        x.mark(1, 5, 5);
        Check.answers("no later mark moves it", 1000, () -> x.offset(1));
    }

    private static void offsetIsZeroWithoutAMark() {
        Check.sentence("0 without one");
        Counted x = new Counted();
        for (int source = 0; source < 10; source++) {
            int s = source;
            Check.answers("source " + s, 0, () -> x.offset(s));
        }
        x.mark(4, 0, 50);
        Check.answers("its neighbour below", 0, () -> x.offset(3));
        Check.answers("its neighbour above", 0, () -> x.offset(5));
        x.slot(3, 20, 1, 1, 0, 0);
        Check.answers("a slot without an offset", 20, () -> x.time(0));
    }

    private static void trueTimeMayBeBelowZero() {
        Check.sentence("the TRUE time of a slot's byte is its clock's time and the offset (it may be below 0)");
        Counted x = new Counted();
        x.slot(0, 0, 8, 0x0102030405060708L, 0, 0);
        x.slot(1, 0, 3, 0x0A0B0CL, 0, 0);
        x.mark(0, LAST, 0);
        x.mark(1, 2, 1);
        Check.answers("the earliest", -LAST, () -> x.time(0));
        Check.answers("one below 0", -1, () -> x.time(1));
        Check.answers("its byte below 0", Check.sumOf(10), () -> x.part(1, -1, 0));
        Check.answers("its byte at 0", Check.sumOf(11), () -> x.part(1, 0, 1));
        Check.answers("bytes below 0", 9, () -> x.size(MIN, 0));
        Check.answers("bytes from 0 on", 2, () -> x.size(0, MAX));
        Check.answers("the first byte of all", 0, () -> x.find(-LAST, -LAST + 1, -1, -1, 0));
        Check.answers("none before it", -1, () -> x.find(MIN, -LAST, -1, -1, 0));
        Check.answers("its sum", Check.sumOf(1), () -> x.export(MIN, -LAST + 1));
    }

    private static void trueTimeMayBeBehindTheLastTime() {
        Check.sentence("the TRUE time of a slot's byte is its clock's time and the offset");
        Counted x = new Counted();
        x.slot(0, LAST, 8, 0x0102030405060708L, 0, 0);
        Check.answers("bytes behind the last time", 7, () -> x.size(LAST + 1, MAX));
        x.mark(0, 0, LAST);
        Check.answers("the latest", 2 * LAST, () -> x.time(0));
        Check.answers("its last byte", Check.sumOf(8), () -> x.part(0, 2 * LAST + 7, 2 * LAST + 8));
        Check.answers("nothing behind it", 0, () -> x.size(2 * LAST + 8, MAX));
        Check.answers("all of it", 8, () -> x.size(2 * LAST, 2 * LAST + 8));
        Check.answers("nothing before it", -1, () -> x.find(MIN, 2 * LAST, -1, -1, 0));
    }

    private static void marksAreAtMost60() {
        Check.sentence("Marks 0, 1, .. (at most 60)");
        Counted x = new Counted();
        for (int k = 0; k < 60; k++) {
            int number = k;
            Check.answers("mark " + k, number, () -> x.mark(3, number, number == 59 ? 60 : number));
        }
        Check.refuses("the 61st", Check.NO_ROOM, () -> x.mark(3, 0, 0));
        Check.refuses("of another source too", Check.NO_ROOM, () -> x.mark(4, 0, 1));
        Check.answers("60 marks", 60, () -> x.count(2));
        Check.answers("the last one contradicts", 59, () -> x.contradiction(0));
        Check.answers("the refused ones do not", -1, () -> x.contradiction(1));
        Check.answers("nor is there an offset", 0, () -> x.offset(4));
    }

    private static void contradictionIsAnyOtherOffset() {
        Check.sentence("one whose offset is another than the first one's of its source CONTRADICTS that");
        Counted x = new Counted();
        x.mark(2, 100, 110);
        x.mark(2, 500, 510);
        Check.answers("the same offset at another time", -1, () -> x.contradiction(0));
        x.mark(2, 100, 111);
        Check.answers("one more", 2, () -> x.contradiction(0));
        x.mark(2, 100, 109);
        Check.answers("one less", 3, () -> x.contradiction(1));
        x.mark(2, 101, 112);
        Check.answers("as the second one, not as the first", 4, () -> x.contradiction(2));
        x.mark(2, 0, 10);
        Check.answers("as the first again", -1, () -> x.contradiction(3));
        x.mark(2, LAST, 0);
        Check.answers("the farthest", 6, () -> x.contradiction(3));
    }

    private static void contradictionIsOfTheSameSource() {
        Check.sentence("than the first one's of its source");
        Counted x = new Counted();
        for (int source = 0; source < 10; source++) {
            x.mark(source, 0, source);
        }
        Check.answers("first marks contradict none", -1, () -> x.contradiction(0));
        x.mark(9, 0, 0);
        Check.answers("as source 0's, but of source 9", 910, () -> x.contradiction(0));
        x.mark(0, 5, 5);
        Check.answers("an offset of 0 again", -1, () -> x.contradiction(1));
        x.mark(0, 5, 6);
        Check.answers("an offset of 0 is contradicted", 12, () -> x.contradiction(1));
    }

    private static void lineIs(Counted x, int... numbers) {
        for (int k = 0; k < numbers.length; k++) {
            int place = k;
            Check.answers("place " + k, numbers[k], () -> x.find(MIN, MAX, -1, -1, place));
        }
        Check.answers("behind its end", -1, () -> x.find(MIN, MAX, -1, -1, numbers.length));
    }

    private static void lineIsByTrueTimes() {
        Check.sentence("THE LINE has all slots that are there by true times of their beginnings");
        Counted x = new Counted();
        x.slot(0, 11, 1, 1, 0, 0);
        x.slot(9, 10, 8, 2, 0, 0);
        x.slot(5, 12, 1, 3, 0, 0);
        lineIs(x, 1, 0, 2);
        x.mark(5, 12, 9);
        lineIs(x, 2, 1, 0);
        x.mark(9, 0, 2);
        lineIs(x, 2, 0, 1);
        x.mark(0, LAST, 0);
        lineIs(x, 0, 2, 1);
        x.mark(0, 0, LAST);
        lineIs(x, 0, 2, 1);
    }

    private static void lineOfTheSameTimeIsBySources() {
        Check.sentence("of the same by sources");
        Counted x = new Counted();
        x.slot(9, 50, 1, 1, 0, 0);
        x.slot(0, 50, 8, 2, 0, 0);
        x.slot(5, 50, 2, 3, 0, 0);
        x.slot(1, 60, 1, 4, 0, 0);
        lineIs(x, 1, 2, 0, 3);
        x.mark(1, 60, 50);
        lineIs(x, 1, 3, 2, 0);
        x.mark(5, 0, 10);
        x.mark(0, 0, 10);
        lineIs(x, 3, 0, 1, 2);
    }

    /** Whatever else could order them (bytes, how many, units, incidents) goes down where the numbers go up. */
    private static void lineOfTheSameSourceIsByNumbers() {
        Check.sentence("then by numbers");
        Counted x = new Counted();
        for (int k = 0; k < 8; k++) {
            x.slot(4, 70, 8 - k, 90 - k, 90 - k, 40 - k);
        }
        for (int k = 8; k < 11; k++) {
            x.slot(4, 70, k - 7, k, k, k);
        }
        lineIs(x, 0, 1, 2, 3, 4, 5, 6, 7, 8, 9, 10);
        x.mark(4, 70, 0);
        lineIs(x, 0, 1, 2, 3, 4, 5, 6, 7, 8, 9, 10);
        x.drop(0);
        x.drop(5);
        x.slot(4, 70, 1, 0, 0, 0);
        lineIs(x, 1, 2, 3, 4, 6, 7, 8, 9, 10, 11);
    }

    private static void lineHasAllThatAreThere() {
        Check.sentence("THE LINE has all slots that are there");
        Counted x = new Counted();
        lineIs(x);
        x.slot(0, 3, 1, 1, 0, 0);
        lineIs(x, 0);
        x.slot(0, 2, 1, 2, 0, 0);
        x.slot(0, 1, 1, 3, 0, 0);
        lineIs(x, 2, 1, 0);
        x.drop(1);
        lineIs(x, 2, 0);
        x.drop(2);
        lineIs(x, 0);
        x.slot(0, 4, 1, 4, 0, 0);
        lineIs(x, 0, 3);
        x.drop(3);
        x.drop(0);
        lineIs(x);
        x.slot(0, 9, 1, 5, 0, 0);
        lineIs(x, 4);
    }

    private static void lineOfManyIsInOrder() {
        Check.sentence("THE LINE has all slots: 200 of them, the last one first");
        Counted x = new Counted();
        for (int k = 0; k < 200; k++) {
            x.slot(k % 10, 1000 - 2 * k, 1, 1, 0, 0);
        }
        for (int k = 0; k < 200; k++) {
            int place = k;
            Check.answers("place " + k, 199 - k, () -> x.find(MIN, MAX, -1, -1, place));
        }
        Check.answers("behind its end", -1, () -> x.find(MIN, MAX, -1, -1, 200));
    }

    /** All begin at the same time of ten clocks: as marks come, the line is by offsets, then by sources, then by numbers. */
    private static void lineOfManyMovesWithMarks() {
        Check.sentence("THE LINE has all slots by true times: 200 of them, behind marks of all sources");
        Counted x = new Counted();
        for (int k = 0; k < 200; k++) {
            x.slot(k % 10, 5000, 1, 1, 0, 0);
        }
        for (int k = 0; k < 20; k++) {
            int place = k;
            Check.answers("without a mark, place " + k, 10 * k, () -> x.find(MIN, MAX, -1, -1, place));
        }
        for (int source = 0; source < 10; source++) {
            x.mark(source, 100, 200 - source / 2);
        }
        int[] sources = {8, 9, 6, 7, 4, 5, 2, 3, 0, 1};
        for (int k = 0; k < 200; k++) {
            int place = k;
            Check.answers("place " + k, sources[k / 20] + 10 * (k % 20), () -> x.find(MIN, MAX, -1, -1, place));
        }
    }

    private static Counted oneOfFourBytes() {
        Counted x = new Counted();
        x.slot(2, 1000, 4, 0x01020304L, 0, 0);
        x.mark(2, 1000, 10);
        return x;
    }

    private static void spanAnswers(Counted x, int from, int to, int... bytes) {
        String span = from + " .. " + to;
        Check.answers("find " + span, bytes.length == 0 ? -1 : 0, () -> x.find(from, to, -1, -1, 0));
        Check.answers("part " + span, Check.sumOf(bytes), () -> x.part(0, from, to));
        Check.answers("size " + span, bytes.length, () -> x.size(from, to));
        Check.answers("export " + span, Check.sumOf(bytes), () -> x.export(from, to));
    }

    private static void spanIsFromOrLater() {
        Check.sentence("A SPAN FROM .. TO has the bytes whose true time is from or later");
        Counted x = oneOfFourBytes();
        spanAnswers(x, 9, 99, 1, 2, 3, 4);
        spanAnswers(x, 10, 99, 1, 2, 3, 4);
        spanAnswers(x, 11, 99, 2, 3, 4);
        spanAnswers(x, 13, 99, 4);
        spanAnswers(x, 14, 99);
    }

    private static void spanIsBeforeTo() {
        Check.sentence("and before to");
        Counted x = oneOfFourBytes();
        spanAnswers(x, 0, 10);
        spanAnswers(x, 0, 11, 1);
        spanAnswers(x, 0, 13, 1, 2, 3);
        spanAnswers(x, 0, 14, 1, 2, 3, 4);
        spanAnswers(x, 0, 15, 1, 2, 3, 4);
        spanAnswers(x, 11, 13, 2, 3);
        spanAnswers(x, 1000, 1004);
    }

    private static void spanMayBeEmptyOrTurnedRound() {
        Check.sentence("A SPAN FROM .. TO: from or later and before to, where none is both");
        Counted x = oneOfFourBytes();
        spanAnswers(x, 10, 10);
        spanAnswers(x, 12, 12);
        spanAnswers(x, 14, 14);
        spanAnswers(x, 13, 12);
        spanAnswers(x, 99, 0);
        spanAnswers(x, 14, 10);
        spanAnswers(x, 12, 0);
    }

    private static void spanMayEndAtTheEndsOfInt() {
        Check.sentence("A SPAN FROM .. TO, at the ends of int");
        Counted x = oneOfFourBytes();
        spanAnswers(x, MIN, MAX, 1, 2, 3, 4);
        spanAnswers(x, MAX, MIN);
        spanAnswers(x, MIN, MIN);
        spanAnswers(x, MAX, MAX);
        spanAnswers(x, MIN, 11, 1);
        spanAnswers(x, 13, MAX, 4);
        spanAnswers(x, MIN, MIN + 1);
        spanAnswers(x, MAX - 1, MAX);
        spanAnswers(x, MAX, 12);
        spanAnswers(x, 12, MIN);
    }

    private static void spanReachesTheEarliestAndTheLatest() {
        Check.sentence("A SPAN FROM .. TO, at the ends of int, of the earliest and the latest bytes");
        Counted x = new Counted();
        x.slot(0, 0, 8, 0x0102030405060708L, 0, 0);
        x.slot(1, LAST, 8, 0x1112131415161718L, 0, 0);
        x.mark(0, LAST, 0);
        x.mark(1, 0, LAST);
        for (int edge : new int[] {MIN, MAX}) {
            Check.answers("size at " + edge, 0, () -> x.size(edge, edge));
            Check.answers("export at " + edge, 0, () -> x.export(edge, edge));
            Check.answers("part at " + edge, 0, () -> x.part(0, edge, edge));
            Check.answers("part of the latest at " + edge, 0, () -> x.part(1, edge, edge));
        }
        Check.answers("all", 16, () -> x.size(MIN, MAX));
        Check.answers("all, turned round", 0, () -> x.size(MAX, MIN));
        Check.answers("below 0", 8, () -> x.size(MIN, 0));
        Check.answers("from 0 on", 8, () -> x.size(0, MAX));
        Check.answers("the earliest bytes", Check.sumOf(1, 2), () -> x.part(0, MIN, -LAST + 2));
        Check.answers("the latest bytes", Check.sumOf(0x17, 0x18), () -> x.part(1, 2 * LAST + 6, MAX));
        Check.answers("the earliest slot late", 0, () -> x.part(0, MAX - 5, MAX));
        Check.answers("the latest slot early", 0, () -> x.part(1, MIN, MIN + 5));
        Check.answers("the earliest found", 0, () -> x.find(MIN, -LAST + 1, -1, -1, 0));
        Check.answers("the latest found", 1, () -> x.find(2 * LAST + 7, MAX, -1, -1, 0));
    }

    private static void holdsAreOfIncidents() {
        Check.sentence("HOLDS are of incidents");
        Counted x = new Counted();
        x.slot(0, 0, 1, 1, 5, 0);
        x.slot(9, 9, 2, 2, 6, 0);
        x.slot(0, 0, 1, 3, 5, 1);
        x.slot(0, 0, 1, 4, 5, 49);
        x.slot(0, 0, 1, 5, 5, 48);
        x.hold(0, true);
        x.hold(49, true);
        x.slot(0, 0, 1, 6, 5, 0);
        Check.refuses("a slot of it", Check.STATE, () -> x.drop(0));
        Check.refuses("another one", Check.STATE, () -> x.drop(1));
        Check.refuses("one of the last incident", Check.STATE, () -> x.drop(3));
        Check.refuses("one made under the hold", Check.STATE, () -> x.drop(5));
        Check.answers("the next incident", 0, () -> x.drop(2));
        Check.answers("the one before the last", 1, () -> x.drop(4));
        x.hold(0, false);
        Check.answers("no hold any more", 2, () -> x.drop(0));
        Check.answers("nor on the others of it", 3, () -> x.drop(5));
        Check.refuses("the last incident's stays", Check.STATE, () -> x.drop(3));
    }

    private static void personsAreTwenty() {
        Check.sentence("RIGHTS: a person (0 .. 19)");
        Counted x = new Counted();
        x.slot(0, 0, 1, 7, 0, 3);
        for (int person : new int[] {0, 19}) {
            Check.passes("right of " + person, () -> x.right(person, 3, true));
            Check.answers("listen of " + person, Check.sumOf(7), () -> x.listen(person, 0));
        }
        for (int bad : new int[] {-1, 20, MIN, MAX}) {
            Check.refuses("right of " + bad, Check.UNKNOWN, () -> x.right(bad, 3, true));
            Check.refuses("none of " + bad, Check.UNKNOWN, () -> x.right(bad, 3, false));
            Check.refuses("listen of " + bad, Check.UNKNOWN, () -> x.listen(bad, 0));
        }
        Check.answers("two rows", 2, () -> x.count(4));
    }

    private static void rightsAreOfSomeIncidents() {
        Check.sentence("a person may listen to some incidents");
        Counted x = new Counted();
        x.slot(0, 0, 1, 1, 0, 0);
        x.slot(0, 0, 1, 2, 0, 49);
        for (int person = 0; person < 20; person++) {
            int p = person;
            Check.refuses("none at first, " + p, Check.STATE, () -> x.listen(p, 0));
        }
        x.right(4, 49, true);
        x.right(7, 0, true);
        for (int person = 0; person < 20; person++) {
            int p = person;
            listens(x, p, 0, p == 7);
            listens(x, p, 1, p == 4);
        }
        x.right(4, 0, true);
        listens(x, 4, 0, true);
        listens(x, 4, 1, true);
        x.right(4, 49, false);
        listens(x, 4, 0, true);
        listens(x, 4, 1, false);
    }

    private static void listens(Counted x, int person, int slot, boolean allowed) {
        if (allowed) {
            Check.answers(person + " listens to " + slot, Check.sumOf(slot + 1), () -> x.listen(person, slot));
        } else {
            Check.refuses(person + " listens to " + slot, Check.STATE, () -> x.listen(person, slot));
        }
    }

    private static void rowsAreOfEachTry() {
        Check.sentence("ROWS of listeners: each try to listen");
        Counted x = new Counted();
        x.slot(0, 0, 1, 1, 0, 0);
        x.slot(0, 0, 1, 2, 0, 1);
        x.slot(0, 0, 1, 3, 0, 0);
        x.right(6, 0, true);
        x.drop(2);
        listens(x, 6, 0, true);
        listens(x, 6, 1, false);
        listens(x, 6, 2, false);
        listens(x, 5, 2, false);
        listens(x, 6, 0, true);
        rowIs(x, 0, 6, 0, 1);
        rowIs(x, 1, 6, 1, 0);
        rowIs(x, 2, 6, 2, 0);
        rowIs(x, 3, 5, 2, 0);
        rowIs(x, 4, 6, 0, 1);
        Check.answers("five rows", 5, () -> x.count(4));
    }

    private static void rowIs(Counted x, int i, int person, int slot, int allowed) {
        Check.answers("row " + i + ", person", person, () -> x.row(i, 0));
        Check.answers("row " + i + ", slot", slot, () -> x.row(i, 1));
        Check.answers("row " + i + ", allowed", allowed, () -> x.row(i, 2));
    }

    private static void rowsKeptAreAtMost200() {
        Check.sentence("(at most 200 are kept, the latest)");
        for (int ever : new int[] {1, 199, 200, 201, 202, 399, 400, 401, 450}) {
            Counted x = new Counted();
            x.slot(0, 0, 1, 1, 0, 0);
            x.slot(0, 0, 1, 2, 0, 1);
            for (int person = 0; person < 20; person++) {
                x.right(person, person % 2, true);
            }
            for (int i = 0; i < ever; i++) {
                listens(x, i % 20, i % 3 % 2, i % 20 % 2 == i % 3 % 2);
            }
            int first = Math.max(0, ever - 200);
            rowIsGone(x, first - 1);
            rowIs(x, first, first % 20, first % 3 % 2, first % 20 % 2 == first % 3 % 2 ? 1 : 0);
            int last = ever - 1;
            rowIs(x, last, last % 20, last % 3 % 2, last % 20 % 2 == last % 3 % 2 ? 1 : 0);
            rowIsGone(x, ever);
            Check.answers("all are counted", ever, () -> x.count(4));
        }
    }

    private static void rowIsGone(Counted x, int i) {
        for (int what = 0; what <= 2; what++) {
            int w = what;
            Check.refuses("row " + i + ", " + w, Check.UNKNOWN, () -> x.row(i, w));
        }
    }

    private static void sumIsKeptFromTheBeginningOn() {
        Check.sentence("the sum of a slot is kept from its beginning on");
        Counted x = new Counted();
        x.slot(0, 0, 2, 0x0102L, 0, 0);
        Check.answers("not bad at first", -1, x::verify);
        x.poke(0, 1, 0x10);
        x.poke(0, 0, 0x20);
        Check.answers("bad", 0, x::verify);
        Check.answers("asking for it keeps no other", Check.sumOf(0x21, 0x12), () -> x.sum(0));
        Check.answers("still bad", 0, x::verify);
        x.drop(0);
        Check.answers("the kept one", Check.sumOf(1, 2), () -> x.certificate(0, 1));
        Check.answers("the last one", Check.sumOf(0x21, 0x12), () -> x.certificate(0, 2));
    }

    private static void badIsAnotherSumNow() {
        Check.sentence("a slot whose bytes have another sum now is BAD");
        Counted x = new Counted();
        x.slot(0, 0, 8, 0x0102030405060708L, 0, 0);
        for (int k = 0; k < 8; k++) {
            int i = k;
            x.poke(0, i, 1 << i);
            Check.answers("one bit of byte " + i, 0, x::verify);
            x.poke(0, i, 1 << i);
            Check.answers("byte " + i + " is as it was", -1, x::verify);
        }
        x.mark(0, 0, 5);
        x.hold(0, true);
        Check.answers("no mark and no hold alters bytes", -1, x::verify);
    }

    /** The bytes 168, 126, 218, 10 have the sum 0, as four bytes of 0 have: the words ask for the sum, not for the bytes. */
    private static void sameSumOfOtherBytesIsNotBad() {
        Check.sentence("another SUM now is BAD: other bytes with the same sum are not");
        Counted x = new Counted();
        x.slot(0, 0, 4, 0L, 0, 0);
        int[] bytes = {168, 126, 218, 10};
        for (int k = 0; k < 4; k++) {
            int i = k;
            Check.passes("poke " + i, () -> x.poke(0, i, bytes[i]));
            Check.answers("behind poke " + i, k < 3 ? 0 : -1, x::verify);
        }
        Check.answers("the sum", 0, () -> x.sum(0));
        Check.answers("the bytes are others", Check.sumOf(168), () -> x.part(0, 0, 1));
        x.drop(0);
        Check.answers("kept", 0, () -> x.certificate(0, 1));
        Check.answers("as dropped", 0, () -> x.certificate(0, 2));
    }

    private static void fillSlots(Counted x, int slots) {
        for (int k = 0; k < slots; k++) {
            x.slot(k % 10, k, 1, k, k % 100, k % 50);
        }
    }
}
