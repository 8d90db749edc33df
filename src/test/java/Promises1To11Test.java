/** Each sentence of promises 1 to 11 that names a boundary has a test of its own here, beside ordinary inputs. */
public final class Promises1To11Test {
    private static final int MIN = Integer.MIN_VALUE;
    private static final int MAX = Integer.MAX_VALUE;
    private static final int LAST = 9999999;

    public static void main(String[] args) {
        newObjectHasNothing();
        newObjectKnowsNoNumbers();
        newObjectHasNoHoldsAndNoRights();
        objectsShareNothing();
        slotAnswersItsNumber();
        slotTakesTheLowestBytes();
        slotTakesTheHighestOfTheseFirst();
        slotOfUnknown();
        slotOutOfRange();
        slotWithoutRoom();
        markAnswersItsNumber();
        markOfUnknown();
        markOutOfRange();
        markWithoutRoom();
        offsetOfASource();
        offsetOfUnknown();
        contradictionIsThatOneAndIt();
        contradictionOfNoMore();
        contradictionBelowZero();
        contradictionsAsManyAsCanBe();
        findIsTheIthOfTheLine();
        findNeedsSomeByte();
        findOfUnitAndIncident();
        findOfAny();
        findOfNoMore();
        findOfUnknown();
        findBelowZero();
        timeOfTheBeginning();
        timeOfUnknown();
        timeOfDropped();
        sumAsTheBytesAreNow();
        sumOfUnknown();
        sumOfDropped();
        partInTheSpan();
        partOfNone();
        partOfUnknown();
        partOfDropped();
        sizeOfAllSlots();
        sizeOfNothing();
        exportAsInTheLine();
        exportOfNothing();
        exportOfAllThatCanBe();
        Check.finish();
    }

    private static void newObjectHasNothing() {
        Check.sentence("1: Nothing recorded: counts and questions");
        Counted x = new Counted();
        for (int what = 0; what <= 4; what++) {
            int w = what;
            Check.answers("count " + w, 0, () -> x.count(w));
        }
        for (int source = 0; source <= 9; source++) {
            int s = source;
            Check.answers("offset " + s, 0, () -> x.offset(s));
        }
        Check.answers("contradiction", -1, () -> x.contradiction(0));
        Check.answers("find", -1, () -> x.find(MIN, MAX, -1, -1, 0));
        Check.answers("find of a unit and an incident", -1, () -> x.find(MIN, MAX, 0, 0, 0));
        Check.answers("size", 0, () -> x.size(MIN, MAX));
        Check.answers("export", 0, () -> x.export(MIN, MAX));
        Check.answers("verify", -1, x::verify);
    }

    private static void newObjectKnowsNoNumbers() {
        Check.sentence("1: Nothing recorded: no slot, no certificate, no row");
        Counted x = new Counted();
        for (int k : new int[] {0, -1, 1, 199, MIN, MAX}) {
            Check.refuses("time " + k, Check.UNKNOWN, () -> x.time(k));
            Check.refuses("sum " + k, Check.UNKNOWN, () -> x.sum(k));
            Check.refuses("part " + k, Check.UNKNOWN, () -> x.part(k, MIN, MAX));
            Check.refuses("drop " + k, Check.UNKNOWN, () -> x.drop(k));
            Check.refuses("poke " + k, Check.UNKNOWN, () -> x.poke(k, 0, 1));
            Check.refuses("listen " + k, Check.UNKNOWN, () -> x.listen(0, k));
            Check.refuses("certificate " + k, Check.UNKNOWN, () -> x.certificate(k, 0));
            Check.refuses("row " + k, Check.UNKNOWN, () -> x.row(k, 0));
        }
        Check.answers("no try was kept", 0, () -> x.count(4));
        Check.answers("the first slot is 0", 0, () -> x.slot(0, 0, 1, 0, 0, 0));
        Check.answers("the first mark is 0", 0, () -> x.mark(0, 0, 0));
        Check.answers("the first certificate is 0", 0, () -> x.drop(0));
    }

    private static void newObjectHasNoHoldsAndNoRights() {
        Check.sentence("1: Nothing recorded: no holds, no rights");
        Counted x = new Counted();
        for (int incident = 0; incident < 50; incident++) {
            int n = incident;
            Check.refuses("no hold on " + n, Check.STATE, () -> x.hold(n, false));
        }
        x.slot(0, 0, 1, 0, 0, 0);
        x.slot(0, 0, 1, 0, 0, 49);
        for (int person = 0; person < 20; person++) {
            int p = person;
            Check.refuses("no right of " + p, Check.STATE, () -> x.listen(p, 0));
            Check.refuses("nor on the last incident", Check.STATE, () -> x.listen(p, 1));
        }
    }

    private static void objectsShareNothing() {
        Check.sentence("1: Nothing recorded: though there is another object");
        Counted other = new Counted();
        other.slot(0, 0, 1, 1, 0, 0);
        other.mark(0, 0, 5);
        other.right(0, 0, true);
        other.listen(0, 0);
        other.drop(0);
        other.hold(0, true);
        Counted x = new Counted();
        for (int what = 0; what <= 4; what++) {
            int w = what;
            Check.answers("count " + w, 0, () -> x.count(w));
        }
        Check.answers("offset", 0, () -> x.offset(0));
        Check.passes("hold", () -> x.hold(0, true));
        x.slot(0, 0, 1, 1, 0, 0);
        Check.refuses("right", Check.STATE, () -> x.listen(0, 0));
        Check.answers("nor goes anything back", 1, () -> other.count(4));
    }

    private static void slotAnswersItsNumber() {
        Check.sentence("2: A slot: its number");
        Counted x = new Counted();
        Check.answers("the first", 0, () -> x.slot(5, 70, 1, 1, 1, 1));
        Check.answers("the same once more", 1, () -> x.slot(5, 70, 1, 1, 1, 1));
        Check.refuses("a refused one", Check.RANGE, () -> x.slot(5, 70, 0, 1, 1, 1));
        Check.answers("takes no number", 2, () -> x.slot(5, 70, 1, 1, 1, 1));
        x.drop(2);
        x.drop(0);
        Check.answers("a dropped one's does not come again", 3, () -> x.slot(5, 70, 1, 1, 1, 1));
        Check.answers("four slots", 4, () -> x.count(0));
        Check.answers("two there", 2, () -> x.count(1));
    }

    private static void slotTakesTheLowestBytes() {
        Check.sentence("2: n bytes, the lowest n of the long");
        long bytes = 0xF1E2D3C4B5A69788L;
        int[] all = {0xF1, 0xE2, 0xD3, 0xC4, 0xB5, 0xA6, 0x97, 0x88};
        Counted x = new Counted();
        for (int n = 1; n <= 8; n++) {
            int number = n - 1;
            x.slot(0, 100, n, bytes, 0, 0);
            Check.answers("n " + n, Check.sumOf(java.util.Arrays.copyOfRange(all, 8 - n, 8)), () -> x.sum(number));
        }
        Check.answers("the long's sign is no byte's", 8, () -> x.slot(0, 100, 7, Long.MIN_VALUE, 0, 0));
        Check.answers("seven bytes of 0", 0, () -> x.sum(8));
        Check.answers("the lowest long", 9, () -> x.slot(0, 100, 8, Long.MIN_VALUE, 0, 0));
        Check.answers("128 and seven of 0", Check.sumOf(128, 0, 0, 0, 0, 0, 0, 0), () -> x.sum(9));
        Check.answers("the highest long", 10, () -> x.slot(0, 100, 8, Long.MAX_VALUE, 0, 0));
        Check.answers("127 and seven of 255", Check.sumOf(127, 255, 255, 255, 255, 255, 255, 255), () -> x.sum(10));
    }

    private static void slotTakesTheHighestOfTheseFirst() {
        Check.sentence("2: the highest of these first");
        Counted x = new Counted();
        x.slot(0, 100, 3, 0x99010203L, 0, 0);
        Check.answers("first", Check.sumOf(1), () -> x.part(0, 100, 101));
        Check.answers("second", Check.sumOf(2), () -> x.part(0, 101, 102));
        Check.answers("last", Check.sumOf(3), () -> x.part(0, 102, 103));
        Check.answers("in this order", Check.sumOf(1, 2, 3), () -> x.sum(0));
        Check.answers("no fourth", 0, () -> x.part(0, 103, 104));
    }

    private static void slotOfUnknown() {
        Check.sentence("2: Unknown: no such source, unit or incident");
        Counted x = new Counted();
        Check.answers("the first ones", 0, () -> x.slot(0, 1, 1, 1, 0, 0));
        Check.answers("the last ones", 1, () -> x.slot(9, 1, 1, 1, 99, 49));
        for (int bad : new int[] {-1, 10, MIN, MAX}) {
            Check.refuses("source " + bad, Check.UNKNOWN, () -> x.slot(bad, 1, 1, 1, 0, 0));
        }
        for (int bad : new int[] {-1, 100, MIN, MAX}) {
            Check.refuses("unit " + bad, Check.UNKNOWN, () -> x.slot(0, 1, 1, 1, bad, 0));
        }
        for (int bad : new int[] {-1, 50, MIN, MAX}) {
            Check.refuses("incident " + bad, Check.UNKNOWN, () -> x.slot(0, 1, 1, 1, 0, bad));
        }
        Check.answers("two slots", 2, () -> x.count(0));
    }

    private static void slotOutOfRange() {
        Check.sentence("2: range: the time, n");
        Counted x = new Counted();
        Check.answers("the first ones", 0, () -> x.slot(0, 0, 1, 1, 0, 0));
        Check.answers("the last ones", 1, () -> x.slot(0, LAST, 8, 1, 0, 0));
        for (int bad : new int[] {-1, LAST + 1, MIN, MAX}) {
            Check.refuses("time " + bad, Check.RANGE, () -> x.slot(0, bad, 1, 1, 0, 0));
        }
        for (int bad : new int[] {0, 9, -1, MIN, MAX}) {
            Check.refuses("n " + bad, Check.RANGE, () -> x.slot(0, 0, bad, 1, 0, 0));
        }
        Check.answers("nine bytes", 9, () -> x.size(MIN, MAX));
    }

    private static void slotWithoutRoom() {
        Check.sentence("2: no room: there are 200");
        Counted x = new Counted();
        for (int k = 0; k < 199; k++) {
            x.slot(0, 0, 1, 1, 0, 0);
        }
        Check.answers("the last one", 199, () -> x.slot(9, LAST, 8, -1L, 99, 49));
        Check.refuses("one more", Check.NO_ROOM, () -> x.slot(0, 0, 1, 1, 0, 0));
        x.drop(0);
        x.drop(199);
        Check.refuses("dropped ones are still slots", Check.NO_ROOM, () -> x.slot(0, 0, 1, 1, 0, 0));
        Check.answers("200", 200, () -> x.count(0));
        Check.answers("198 there", 198, () -> x.count(1));
        Check.answers("a mark has room", 0, () -> x.mark(0, 0, 0));
    }

    private static void markAnswersItsNumber() {
        Check.sentence("3: A mark: its number");
        Counted x = new Counted();
        Check.answers("the first", 0, () -> x.mark(9, 5, 6));
        Check.answers("the same once more", 1, () -> x.mark(9, 5, 6));
        Check.refuses("a refused one", Check.RANGE, () -> x.mark(9, 5, -1));
        Check.answers("takes no number", 2, () -> x.mark(0, 5, 6));
        Check.answers("one that contradicts has one too", 3, () -> x.mark(9, 5, 7));
        Check.answers("four marks", 4, () -> x.count(2));
    }

    private static void markOfUnknown() {
        Check.sentence("3: Unknown: no such source");
        Counted x = new Counted();
        Check.answers("the first", 0, () -> x.mark(0, 1, 3));
        Check.answers("the last", 1, () -> x.mark(9, 1, 4));
        for (int bad : new int[] {-1, 10, MIN, MAX}) {
            Check.refuses("source " + bad, Check.UNKNOWN, () -> x.mark(bad, 1, 5));
        }
        Check.answers("two marks", 2, () -> x.count(2));
    }

    private static void markOutOfRange() {
        Check.sentence("3: range: the times");
        Counted x = new Counted();
        Check.answers("both the first", 0, () -> x.mark(0, 0, 0));
        Check.answers("both the last", 1, () -> x.mark(0, LAST, LAST));
        Check.answers("the first and the last", 2, () -> x.mark(1, 0, LAST));
        Check.answers("the last and the first", 3, () -> x.mark(2, LAST, 0));
        for (int bad : new int[] {-1, LAST + 1, MIN, MAX}) {
            Check.refuses("clock " + bad, Check.RANGE, () -> x.mark(3, bad, 0));
            Check.refuses("truly " + bad, Check.RANGE, () -> x.mark(3, 0, bad));
        }
        Check.answers("four marks", 4, () -> x.count(2));
        Check.answers("no offset by the refused", 0, () -> x.offset(3));
    }

    private static void markWithoutRoom() {
        Check.sentence("3: no room: there are 60");
        Counted x = new Counted();
        for (int k = 0; k < 59; k++) {
            x.mark(0, 0, 0);
        }
        Check.answers("the last one", 59, () -> x.mark(9, 0, LAST));
        Check.refuses("one more", Check.NO_ROOM, () -> x.mark(9, 0, LAST));
        Check.refuses("of a source without one", Check.NO_ROOM, () -> x.mark(5, 0, LAST));
        Check.answers("the last one counts", LAST, () -> x.offset(9));
        Check.answers("the refused one does not", 0, () -> x.offset(5));
        Check.answers("a slot has room", 0, () -> x.slot(0, 0, 1, 1, 0, 0));
    }

    private static void offsetOfASource() {
        Check.sentence("4: A source's offset");
        Counted x = new Counted();
        for (int source = 0; source < 10; source++) {
            x.mark(source, 100 * source, 45 * source);
        }
        for (int source = 0; source < 10; source++) {
            int s = source;
            Check.answers("source " + s, -55 * s, () -> x.offset(s));
        }
        x.slot(9, 495, 1, 1, 0, 0);
        x.drop(0);
        Check.answers("drops leave it", -495, () -> x.offset(9));
    }

    private static void offsetOfUnknown() {
        Check.sentence("4: Unknown: no such source");
        Counted x = new Counted();
        x.mark(0, 0, 1);
        x.mark(9, 0, 2);
        Check.answers("the first", 1, () -> x.offset(0));
        Check.answers("the last", 2, () -> x.offset(9));
        for (int bad : new int[] {-1, 10, MIN, MAX}) {
            Check.refuses("source " + bad, Check.UNKNOWN, () -> x.offset(bad));
        }
    }

    private static void contradictionIsThatOneAndIt() {
        Check.sentence("5: The i-th mark (0 first) that contradicts the first one of its source: 100 times that one and it");
        Counted x = new Counted();
        x.mark(7, 0, 1);
        x.mark(7, 0, 2);
        x.mark(3, 0, 9);
        x.mark(7, 5, 6);
        x.mark(3, 0, 8);
        x.mark(7, 0, 3);
        Check.answers("against mark 0", 1, () -> x.contradiction(0));
        Check.answers("against mark 2", 204, () -> x.contradiction(1));
        Check.answers("against mark 0 again", 5, () -> x.contradiction(2));
        for (int k = 6; k < 58; k++) {
            x.mark(7, k, k + 1);
        }
        x.mark(0, 0, 0);
        x.mark(0, 0, 1);
        Check.answers("the last against the last but one", 5859, () -> x.contradiction(3));
        Check.answers("no more", -1, () -> x.contradiction(4));
    }

    private static void contradictionOfNoMore() {
        Check.sentence("5: -1 when there are not so many");
        Counted x = new Counted();
        Check.answers("without a mark", -1, () -> x.contradiction(0));
        x.mark(0, 0, 0);
        Check.answers("with one mark", -1, () -> x.contradiction(0));
        x.mark(0, 0, 1);
        Check.answers("the only one", 1, () -> x.contradiction(0));
        Check.answers("the next", -1, () -> x.contradiction(1));
        Check.answers("the number of marks", -1, () -> x.contradiction(2));
        Check.answers("beyond the most marks", -1, () -> x.contradiction(60));
        Check.answers("the highest int", -1, () -> x.contradiction(MAX));
    }

    private static void contradictionBelowZero() {
        Check.sentence("5: Range: i is below 0");
        Counted x = new Counted();
        Check.refuses("without a mark", Check.RANGE, () -> x.contradiction(-1));
        x.mark(0, 0, 0);
        x.mark(0, 0, 1);
        Check.answers("0 is not", 1, () -> x.contradiction(0));
        Check.refuses("-1", Check.RANGE, () -> x.contradiction(-1));
        Check.refuses("the lowest int", Check.RANGE, () -> x.contradiction(MIN));
    }

    private static void contradictionsAsManyAsCanBe() {
        Check.sentence("5: The i-th mark: as many as can be");
        Counted x = new Counted();
        for (int k = 0; k < 60; k++) {
            x.mark(4, 0, k);
        }
        for (int k = 0; k < 59; k++) {
            int i = k;
            Check.answers("the " + i + "-th", i + 1, () -> x.contradiction(i));
        }
        Check.answers("no 59th", -1, () -> x.contradiction(59));
    }

    private static void findIsTheIthOfTheLine() {
        Check.sentence("6: The i-th slot (0 first) of the line");
        Counted x = new Counted();
        x.slot(1, 30, 1, 1, 0, 0);
        x.slot(0, 20, 1, 1, 0, 0);
        x.slot(1, 10, 1, 1, 0, 0);
        Check.answers("0 is the first", 2, () -> x.find(0, 99, -1, -1, 0));
        Check.answers("1 is the next", 1, () -> x.find(0, 99, -1, -1, 1));
        Check.answers("2 is the last", 0, () -> x.find(0, 99, -1, -1, 2));
        x.mark(0, 20, 0);
        Check.answers("as the line is now", 1, () -> x.find(0, 99, -1, -1, 0));
        x.drop(1);
        Check.answers("without the dropped", 2, () -> x.find(0, 99, -1, -1, 0));
    }

    private static void findNeedsSomeByte() {
        Check.sentence("6: with some byte in the span");
        Counted x = new Counted();
        x.slot(0, 10, 8, 1, 0, 0);
        x.slot(0, 17, 1, 1, 0, 0);
        x.slot(0, 18, 2, 1, 0, 0);
        Check.answers("the first byte alone", 0, () -> x.find(0, 11, -1, -1, 0));
        Check.answers("none", -1, () -> x.find(0, 10, -1, -1, 0));
        Check.answers("the last byte alone", 0, () -> x.find(17, 18, -1, -1, 0));
        Check.answers("and another slot's", 1, () -> x.find(17, 18, -1, -1, 1));
        Check.answers("two of them", -1, () -> x.find(17, 18, -1, -1, 2));
        Check.answers("behind both", 2, () -> x.find(18, 99, -1, -1, 0));
        Check.answers("behind all", -1, () -> x.find(20, MAX, -1, -1, 0));
        Check.answers("an empty span within a slot", -1, () -> x.find(12, 12, -1, -1, 0));
        Check.answers("a turned one", -1, () -> x.find(14, 12, -1, -1, 0));
    }

    private static void findOfUnitAndIncident() {
        Check.sentence("6: of a unit and an incident");
        Counted x = new Counted();
        x.slot(0, 30, 1, 1, 0, 0);
        x.slot(0, 20, 1, 1, 99, 49);
        x.slot(0, 10, 1, 1, 99, 0);
        x.slot(0, 5, 1, 1, 0, 49);
        x.slot(0, 40, 1, 1, 99, 49);
        Check.answers("0, 0", 0, () -> x.find(0, 99, 0, 0, 0));
        Check.answers("99, 49", 1, () -> x.find(0, 99, 99, 49, 0));
        Check.answers("99, 49, the next", 4, () -> x.find(0, 99, 99, 49, 1));
        Check.answers("99, 49, no more", -1, () -> x.find(0, 99, 99, 49, 2));
        Check.answers("99, 0", 2, () -> x.find(0, 99, 99, 0, 0));
        Check.answers("0, 49", 3, () -> x.find(0, 99, 0, 49, 0));
        Check.answers("a unit without a slot", -1, () -> x.find(0, 99, 1, -1, 0));
        Check.answers("an incident without a slot", -1, () -> x.find(0, 99, -1, 1, 0));
    }

    private static void findOfAny() {
        Check.sentence("6: (each -1: any)");
        Counted x = new Counted();
        x.slot(0, 30, 1, 1, 0, 0);
        x.slot(0, 20, 1, 1, 99, 49);
        x.slot(0, 10, 1, 1, 99, 0);
        x.slot(0, 5, 1, 1, 0, 49);
        Check.answers("any unit", 2, () -> x.find(0, 99, -1, 0, 0));
        Check.answers("any unit, the next", 0, () -> x.find(0, 99, -1, 0, 1));
        Check.answers("any incident", 2, () -> x.find(0, 99, 99, -1, 0));
        Check.answers("any incident, the next", 1, () -> x.find(0, 99, 99, -1, 1));
        Check.answers("any of both", 3, () -> x.find(0, 99, -1, -1, 0));
        Check.answers("any of both, the last", 0, () -> x.find(0, 99, -1, -1, 3));
    }

    private static void findOfNoMore() {
        Check.sentence("6: -1 when there are not so many");
        Counted x = new Counted();
        Check.answers("without a slot", -1, () -> x.find(MIN, MAX, -1, -1, 0));
        x.slot(0, 10, 1, 1, 0, 0);
        x.slot(0, 10, 1, 1, 0, 0);
        Check.answers("the last", 1, () -> x.find(MIN, MAX, -1, -1, 1));
        Check.answers("the next", -1, () -> x.find(MIN, MAX, -1, -1, 2));
        Check.answers("200", -1, () -> x.find(MIN, MAX, -1, -1, 200));
        Check.answers("the highest int", -1, () -> x.find(MIN, MAX, -1, -1, MAX));
    }

    private static void findOfUnknown() {
        Check.sentence("6: Unknown: no such unit or incident");
        Counted x = new Counted();
        x.slot(0, 0, 1, 1, 99, 49);
        Check.answers("the last ones", 0, () -> x.find(0, 1, 99, 49, 0));
        Check.answers("the first ones", -1, () -> x.find(0, 1, 0, 0, 0));
        for (int bad : new int[] {-2, 100, MIN, MAX}) {
            Check.refuses("unit " + bad, Check.UNKNOWN, () -> x.find(0, 1, bad, -1, 0));
            Check.refuses("though no slot is in the span", Check.UNKNOWN, () -> x.find(5, 5, bad, 0, 0));
        }
        for (int bad : new int[] {-2, 50, MIN, MAX}) {
            Check.refuses("incident " + bad, Check.UNKNOWN, () -> x.find(0, 1, -1, bad, 0));
            Check.refuses("though no slot is in the span", Check.UNKNOWN, () -> x.find(5, 5, 0, bad, 0));
        }
    }

    private static void findBelowZero() {
        Check.sentence("6: range: i is below 0");
        Counted x = new Counted();
        Check.refuses("without a slot", Check.RANGE, () -> x.find(MIN, MAX, -1, -1, -1));
        x.slot(0, 0, 1, 1, 0, 0);
        Check.answers("0 is not", 0, () -> x.find(0, 1, 0, 0, 0));
        Check.refuses("-1", Check.RANGE, () -> x.find(0, 1, 0, 0, -1));
        Check.refuses("the lowest int", Check.RANGE, () -> x.find(0, 1, -1, -1, MIN));
    }

    private static void timeOfTheBeginning() {
        Check.sentence("7: The true time of a slot's beginning");
        Counted x = new Counted();
        x.slot(3, 500, 8, 1, 0, 0);
        x.slot(4, LAST, 8, 1, 0, 0);
        x.slot(5, 0, 8, 1, 0, 0);
        Check.answers("without a mark", 500, () -> x.time(0));
        x.mark(3, 10, 0);
        Check.answers("with one, made later", 490, () -> x.time(0));
        x.mark(3, 10, 100);
        Check.answers("a second one moves nothing", 490, () -> x.time(0));
        x.mark(4, 0, LAST);
        x.mark(5, LAST, 0);
        Check.answers("the latest", 2 * LAST, () -> x.time(1));
        Check.answers("the earliest", -LAST, () -> x.time(2));
    }

    private static void timeOfUnknown() {
        Check.sentence("7: Unknown: there is none such");
        Counted x = new Counted();
        x.slot(0, 3, 1, 1, 0, 0);
        x.slot(0, 4, 1, 1, 0, 0);
        Check.answers("the first", 3, () -> x.time(0));
        Check.answers("the last", 4, () -> x.time(1));
        for (int bad : new int[] {-1, 2, 200, MIN, MAX}) {
            Check.refuses("slot " + bad, Check.UNKNOWN, () -> x.time(bad));
        }
    }

    private static void timeOfDropped() {
        Check.sentence("7: state: it is dropped");
        Counted x = new Counted();
        x.slot(0, 3, 1, 1, 0, 0);
        x.slot(0, 4, 1, 1, 0, 0);
        x.drop(0);
        Check.refuses("dropped", Check.STATE, () -> x.time(0));
        Check.answers("the other one", 4, () -> x.time(1));
    }

    private static void sumAsTheBytesAreNow() {
        Check.sentence("8: The sum of a slot's bytes as they are now");
        Counted x = new Counted();
        x.slot(1, 100, 4, 1684234849L, 3, 7);
        Check.answers("at first", 604929166, () -> x.sum(0));
        x.poke(0, 1, 128);
        Check.answers("altered", -1624401667, () -> x.sum(0));
        x.poke(0, 1, 128);
        Check.answers("as at first", 604929166, () -> x.sum(0));
        x.mark(1, 0, 50);
        x.hold(7, true);
        Check.answers("whatever its time and holds", 604929166, () -> x.sum(0));
    }

    private static void sumOfUnknown() {
        Check.sentence("8: Likewise (unknown: there is none such)");
        Counted x = new Counted();
        x.slot(0, 3, 1, 5, 0, 0);
        x.slot(0, 4, 1, 6, 0, 0);
        Check.answers("the first", Check.sumOf(5), () -> x.sum(0));
        Check.answers("the last", Check.sumOf(6), () -> x.sum(1));
        for (int bad : new int[] {-1, 2, 200, MIN, MAX}) {
            Check.refuses("slot " + bad, Check.UNKNOWN, () -> x.sum(bad));
        }
    }

    private static void sumOfDropped() {
        Check.sentence("8: Likewise (state: it is dropped)");
        Counted x = new Counted();
        x.slot(0, 3, 1, 5, 0, 0);
        x.slot(0, 4, 1, 6, 0, 0);
        x.drop(1);
        Check.refuses("dropped", Check.STATE, () -> x.sum(1));
        Check.answers("the other one", Check.sumOf(5), () -> x.sum(0));
    }

    private static void partInTheSpan() {
        Check.sentence("9: The sum of a slot's bytes that are in the span");
        Counted x = new Counted();
        x.slot(2, 1000, 5, 0x0102030405L, 0, 0);
        x.mark(2, 1000, 10);
        Check.answers("the middle", Check.sumOf(2, 3), () -> x.part(0, 11, 13));
        Check.answers("the first alone", Check.sumOf(1), () -> x.part(0, 0, 11));
        Check.answers("the last alone", Check.sumOf(5), () -> x.part(0, 14, 99));
        Check.answers("all", Check.sumOf(1, 2, 3, 4, 5), () -> x.part(0, 10, 15));
        Check.answers("all and more", Check.sumOf(1, 2, 3, 4, 5), () -> x.part(0, MIN, MAX));
        x.poke(0, 2, 0xF0);
        Check.answers("as they are now", Check.sumOf(0xF3), () -> x.part(0, 12, 13));
    }

    private static void partOfNone() {
        Check.sentence("9: (0 when none are)");
        Counted x = new Counted();
        x.slot(2, 1000, 5, 0x0102030405L, 0, 0);
        x.mark(2, 1000, 10);
        int[][] spans = {{0, 10}, {15, 99}, {12, 12}, {14, 11}, {1000, 1005}, {MIN, MIN}, {MAX, MAX}, {MAX, MIN},
            {MIN, 10}, {15, MAX}, {99, 12}, {12, 0}};
        for (int[] span : spans) {
            Check.answers(span[0] + " .. " + span[1], 0, () -> x.part(0, span[0], span[1]));
        }
    }

    private static void partOfUnknown() {
        Check.sentence("9: Likewise (unknown: there is none such)");
        Counted x = new Counted();
        x.slot(0, 3, 1, 5, 0, 0);
        Check.answers("the only one", Check.sumOf(5), () -> x.part(0, 3, 4));
        for (int bad : new int[] {-1, 1, 200, MIN, MAX}) {
            Check.refuses("slot " + bad, Check.UNKNOWN, () -> x.part(bad, 3, 4));
            Check.refuses("slot " + bad + ", empty span", Check.UNKNOWN, () -> x.part(bad, 4, 3));
        }
    }

    private static void partOfDropped() {
        Check.sentence("9: Likewise (state: it is dropped)");
        Counted x = new Counted();
        x.slot(0, 3, 1, 5, 0, 0);
        x.slot(0, 3, 1, 6, 0, 0);
        x.drop(0);
        Check.refuses("dropped", Check.STATE, () -> x.part(0, 3, 4));
        Check.refuses("dropped, empty span", Check.STATE, () -> x.part(0, 4, 3));
        Check.answers("the other one", Check.sumOf(6), () -> x.part(1, 3, 4));
    }

    private static void sizeOfAllSlots() {
        Check.sentence("10: How many bytes the span has in all slots of the line");
        Counted x = new Counted();
        x.slot(0, 10, 4, 1, 0, 0);
        x.slot(1, 12, 8, 1, 0, 0);
        x.slot(0, 12, 2, 1, 9, 9);
        Check.answers("all", 14, () -> x.size(MIN, MAX));
        Check.answers("just all", 14, () -> x.size(10, 20));
        Check.answers("without the first byte", 13, () -> x.size(11, 20));
        Check.answers("without the last byte", 13, () -> x.size(10, 19));
        Check.answers("one second of three slots", 3, () -> x.size(12, 13));
        x.mark(1, 12, 1012);
        Check.answers("by true times", 6, () -> x.size(0, 1000));
        x.drop(0);
        Check.answers("without the dropped", 2, () -> x.size(0, 1000));
        x.poke(2, 0, 1);
        Check.answers("altered bytes are bytes", 2, () -> x.size(0, 1000));
    }

    private static void sizeOfNothing() {
        Check.sentence("10: How many bytes: none");
        Counted x = new Counted();
        Check.answers("without a slot", 0, () -> x.size(MIN, MAX));
        x.slot(0, 10, 4, 1, 0, 0);
        x.slot(1, 12, 8, 1, 0, 0);
        int[][] spans = {{0, 10}, {20, 99}, {12, 12}, {14, 11}, {MAX, MIN}, {MIN, MIN}, {MAX, MAX}, {99, 0}, {MIN, 10},
            {20, MAX}};
        for (int[] span : spans) {
            Check.answers(span[0] + " .. " + span[1], 0, () -> x.size(span[0], span[1]));
        }
    }

    private static void exportAsInTheLine() {
        Check.sentence("11: Their sum, one slot behind the other as in the line");
        Counted x = new Counted();
        x.slot(1, 20, 3, 0x0A0B0CL, 0, 0);
        x.slot(0, 20, 2, 0x0102L, 0, 0);
        x.slot(5, 19, 4, 0xF1F2F3F4L, 0, 0);
        Check.answers("all", Check.sumOf(0xF1, 0xF2, 0xF3, 0xF4, 1, 2, 10, 11, 12), () -> x.export(MIN, MAX));
        Check.answers("from 21 on", Check.sumOf(0xF3, 0xF4, 2, 11, 12), () -> x.export(21, 30));
        Check.answers("before 21", Check.sumOf(0xF1, 0xF2, 1, 10), () -> x.export(0, 21));
        x.mark(5, 0, 5);
        Check.answers("as the line is now", Check.sumOf(1, 2, 10, 11, 12, 0xF1, 0xF2, 0xF3, 0xF4),
                () -> x.export(0, 99));
        x.poke(0, 1, 1);
        x.drop(1);
        Check.answers("altered and dropped", Check.sumOf(10, 10, 12, 0xF1, 0xF2, 0xF3, 0xF4), () -> x.export(0, 99));
    }

    private static void exportOfNothing() {
        Check.sentence("11: Their sum: of none it is 0");
        Counted x = new Counted();
        Check.answers("without a slot", 0, () -> x.export(MIN, MAX));
        x.slot(0, 10, 4, 0x01020304L, 0, 0);
        x.slot(1, 12, 8, 0x0102030405060708L, 0, 0);
        int[][] spans = {{0, 10}, {20, 99}, {12, 12}, {14, 11}, {MAX, MIN}, {MIN, MIN}, {MAX, MAX}, {99, 0}};
        for (int[] span : spans) {
            Check.answers(span[0] + " .. " + span[1], 0, () -> x.export(span[0], span[1]));
        }
    }

    private static void exportOfAllThatCanBe() {
        Check.sentence("10, 11: in all slots of the line: 200 of eight bytes");
        Counted x = new Counted();
        int[] bytes = new int[1600];
        for (int k = 0; k < 200; k++) {
            long eight = 0;
            for (int i = 0; i < 8; i++) {
                int b = (k * 8 + i) * 37 % 256;
                eight = eight << 8 | b;
                bytes[(199 - k) * 8 + i] = b;
            }
            x.slot(k % 10, 5000 - 3 * k, 8, eight, 0, 0);
        }
        Check.answers("1600 bytes", 1600, () -> x.size(MIN, MAX));
        Check.answers("their sum", Check.sumOf(bytes), () -> x.export(MIN, MAX));
    }
}
