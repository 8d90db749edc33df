import java.util.function.Consumer;

/** "Refusals, in this order: ..": each call with several faults at once; "What is refused changes nothing": each refused call. */
public final class RefusalTest {
    private static final int MIN = Integer.MIN_VALUE;
    private static final int MAX = Integer.MAX_VALUE;
    private static final int LAST = 9999999;

    public static void main(String[] args) {
        slotOrder();
        markOrder();
        findOrder();
        pokeOrder();
        stateAfterUnknown();
        slotChangesNothing();
        slotWithoutRoomChangesNothing();
        markChangesNothing();
        markWithoutRoomChangesNothing();
        questionsChangeNothing();
        holdChangesNothing();
        dropChangesNothing();
        rightChangesNothing();
        pokeChangesNothing();
        listenOfUnknownChangesNothing();
        refusedListenChangesRowsAlone();
        answersChangeNothing();
        Check.finish();
    }

    /** Some of all: slots of four incidents, one bad, one dropped, one under a hold; marks, a contradiction, rights, rows. */
    static void someOfAll(Counted x) {
        x.slot(0, 100, 3, 0x010203L, 5, 0);
        x.slot(9, 200, 8, 0x1112131415161718L, 99, 49);
        x.slot(3, 50, 2, 0xA1A2L, 0, 7);
        x.slot(3, 60, 1, 0xB1L, 0, 7);
        x.slot(4, 0, 4, 0xC1C2C3C4L, 1, 8);
        x.mark(3, 50, 45);
        x.mark(3, 50, 44);
        x.mark(9, LAST, 0);
        x.poke(4, 1, 16);
        x.drop(3);
        x.hold(7, true);
        x.right(4, 49, true);
        x.right(19, 0, true);
        x.right(3, 7, true);
        x.listen(4, 1);
        tryToListen(x, 5, 1);
    }

    private static void tryToListen(Counted x, int person, int slot) {
        Check.refuses("listen", Check.STATE, () -> x.listen(person, slot));
    }

    private static void allSlots(Counted x) {
        for (int k = 0; k < 200; k++) {
            x.slot(k % 10, k, 1 + k % 8, k * 0x0101010101010101L, k % 100, k % 50);
        }
    }

    private static void allMarks(Counted x) {
        x.slot(1, 10, 1, 1, 0, 0);
        x.slot(8, 20, 1, 2, 0, 0);
        for (int k = 0; k < 60; k++) {
            x.mark(k % 8, k, 2 * k % 50);
        }
    }

    private static void slotOrder() {
        Check.sentence("Refusals, in this order: slot");
        Counted x = new Counted();
        unknownSlots(x);
        Check.refuses("time and n", Check.RANGE, () -> x.slot(0, -1, 0, 0, 0, 0));
        allSlots(x);
        unknownSlots(x);
        Check.refuses("time, no room", Check.RANGE, () -> x.slot(0, -1, 1, 0, 0, 0));
        Check.refuses("time too large, no room", Check.RANGE, () -> x.slot(0, LAST + 1, 1, 0, 0, 0));
        Check.refuses("n too small, no room", Check.RANGE, () -> x.slot(0, 0, 0, 0, 0, 0));
        Check.refuses("n too large, no room", Check.RANGE, () -> x.slot(0, 0, 9, 0, 0, 0));
        Check.refuses("no room alone", Check.NO_ROOM, () -> x.slot(0, 0, 1, 0, 0, 0));
    }

    private static void unknownSlots(Counted x) {
        for (int time : new int[] {0, -1, LAST + 1}) {
            for (int n : new int[] {1, 0, 9}) {
                Check.refuses("source first", Check.UNKNOWN, () -> x.slot(10, time, n, 0, 0, 0));
                Check.refuses("unit first", Check.UNKNOWN, () -> x.slot(0, time, n, 0, 100, 0));
                Check.refuses("incident first", Check.UNKNOWN, () -> x.slot(0, time, n, 0, 0, 50));
            }
        }
    }

    private static void markOrder() {
        Check.sentence("Refusals, in this order: mark");
        Counted x = new Counted();
        unknownMarks(x);
        allMarks(x);
        unknownMarks(x);
        Check.refuses("clock, no room", Check.RANGE, () -> x.mark(0, -1, 0));
        Check.refuses("clock too large, no room", Check.RANGE, () -> x.mark(0, LAST + 1, 0));
        Check.refuses("truly, no room", Check.RANGE, () -> x.mark(0, 0, -1));
        Check.refuses("truly too large, no room", Check.RANGE, () -> x.mark(0, 0, LAST + 1));
        Check.refuses("no room alone", Check.NO_ROOM, () -> x.mark(0, 0, 0));
    }

    private static void unknownMarks(Counted x) {
        for (int clock : new int[] {0, -1, LAST + 1}) {
            for (int truly : new int[] {0, -1, LAST + 1}) {
                Check.refuses("source -1 first", Check.UNKNOWN, () -> x.mark(-1, clock, truly));
                Check.refuses("source 10 first", Check.UNKNOWN, () -> x.mark(10, clock, truly));
            }
        }
    }

    private static void findOrder() {
        Check.sentence("Refusals, in this order: find");
        Counted x = new Counted();
        someOfAll(x);
        for (int i : new int[] {-1, MIN}) {
            Check.refuses("unit and i", Check.UNKNOWN, () -> x.find(0, 1, 100, 0, i));
            Check.refuses("low unit and i", Check.UNKNOWN, () -> x.find(0, 1, -2, -1, i));
            Check.refuses("incident and i", Check.UNKNOWN, () -> x.find(0, 1, 0, 50, i));
            Check.refuses("low incident and i", Check.UNKNOWN, () -> x.find(0, 1, -1, -2, i));
            Check.refuses("all three", Check.UNKNOWN, () -> x.find(0, 1, 100, 50, i));
            Check.refuses("i alone", Check.RANGE, () -> x.find(0, 1, -1, -1, i));
        }
    }

    private static void pokeOrder() {
        Check.sentence("Refusals, in this order: poke");
        Counted x = new Counted();
        someOfAll(x);
        for (int slot : new int[] {-1, 5, MIN, MAX}) {
            Check.refuses("slot and i", Check.UNKNOWN, () -> x.poke(slot, -1, 1));
            Check.refuses("slot and mask", Check.UNKNOWN, () -> x.poke(slot, 0, 0));
            Check.refuses("slot, i and mask", Check.UNKNOWN, () -> x.poke(slot, 8, 256));
        }
        Check.refuses("i too small, of a dropped one", Check.RANGE, () -> x.poke(3, -1, 1));
        Check.refuses("i too large, of a dropped one", Check.RANGE, () -> x.poke(3, 1, 1));
        Check.refuses("mask too small, of a dropped one", Check.RANGE, () -> x.poke(3, 0, 0));
        Check.refuses("mask too large, of a dropped one", Check.RANGE, () -> x.poke(3, 0, 256));
        Check.refuses("dropped alone", Check.STATE, () -> x.poke(3, 0, 255));
    }

    private static void stateAfterUnknown() {
        Check.sentence("Refusals, in this order: an unknown number, .. not in this state");
        Counted x = new Counted();
        someOfAll(x);
        for (int bad : new int[] {-1, 50}) {
            Check.refuses("no such incident, no hold so far", Check.UNKNOWN, () -> x.hold(bad, false));
            Check.refuses("no such incident", Check.UNKNOWN, () -> x.hold(bad, true));
        }
        Check.refuses("no such person, a dropped slot", Check.UNKNOWN, () -> x.listen(20, 3));
        Check.refuses("no such person, no right", Check.UNKNOWN, () -> x.listen(-1, 0));
        Check.refuses("no right, no such slot", Check.UNKNOWN, () -> x.listen(0, 5));
        Check.refuses("neither person nor slot", Check.UNKNOWN, () -> x.listen(20, -1));
        Check.refuses("dropped and its incident held", Check.STATE, () -> x.drop(3));
    }

    /** Two objects by the same calls, the refused one on one of them alone: all that can be seen of both is the same. */
    private static void changesNothing(String what, Class<? extends RuntimeException> want, Consumer<Counted> before,
            Consumer<Counted> refused) {
        Counted touched = new Counted();
        before.accept(touched);
        Check.refuses(what, want, () -> refused.accept(touched));
        Counted untouched = new Counted();
        before.accept(untouched);
        int calls = Counted.MOST_CALLS - touched.used();
        same(what, Sight.of(touched, calls), Sight.of(untouched, calls));
    }

    private static void same(String what, String touched, String untouched) {
        Check.due(what + " changed nothing", 1, touched.equals(untouched) ? 1 : 0);
        String[] got = touched.split("\n");
        String[] due = untouched.split("\n");
        for (int k = 0; k < Math.min(got.length, due.length); k++) {
            if (!got[k].equals(due[k])) {
                Check.fail(what + " changed " + due[k] + " to " + got[k]);
                return;
            }
        }
    }

    private static void ofSome(String what, Class<? extends RuntimeException> want, Consumer<Counted> refused) {
        changesNothing(what, want, RefusalTest::someOfAll, refused);
    }

    private static void slotChangesNothing() {
        Check.sentence("What is refused changes nothing: slot");
        for (int bad : new int[] {-1, 10, MIN, MAX}) {
            ofSome("source " + bad, Check.UNKNOWN, x -> x.slot(bad, 1, 1, 1, 0, 0));
        }
        for (int bad : new int[] {-1, 100, MIN, MAX}) {
            ofSome("unit " + bad, Check.UNKNOWN, x -> x.slot(0, 1, 1, 1, bad, 0));
        }
        for (int bad : new int[] {-1, 50, MIN, MAX}) {
            ofSome("incident " + bad, Check.UNKNOWN, x -> x.slot(0, 1, 1, 1, 0, bad));
        }
        for (int bad : new int[] {-1, LAST + 1, MIN, MAX}) {
            ofSome("time " + bad, Check.RANGE, x -> x.slot(0, bad, 1, 1, 0, 0));
        }
        for (int bad : new int[] {0, 9, MIN, MAX}) {
            ofSome("n " + bad, Check.RANGE, x -> x.slot(0, 1, bad, 1, 0, 0));
        }
    }

    private static void slotWithoutRoomChangesNothing() {
        Check.sentence("What is refused changes nothing: slot, no room");
        changesNothing("a slot", Check.NO_ROOM, RefusalTest::allSlots, x -> x.slot(0, 0, 8, -1L, 0, 0));
        changesNothing("a late slot", Check.NO_ROOM, RefusalTest::allSlots, x -> x.slot(9, LAST, 8, -1L, 99, 49));
        changesNothing("its time", Check.RANGE, RefusalTest::allSlots, x -> x.slot(0, -1, 8, -1L, 0, 0));
        changesNothing("its source", Check.UNKNOWN, RefusalTest::allSlots, x -> x.slot(-1, 0, 8, -1L, 0, 0));
    }

    private static void markChangesNothing() {
        Check.sentence("What is refused changes nothing: mark");
        for (int bad : new int[] {-1, 10, MIN, MAX}) {
            ofSome("source " + bad, Check.UNKNOWN, x -> x.mark(bad, 1, 5));
        }
        for (int bad : new int[] {-1, LAST + 1, MIN, MAX}) {
            ofSome("clock " + bad, Check.RANGE, x -> x.mark(0, bad, 5));
            ofSome("truly " + bad, Check.RANGE, x -> x.mark(0, 1, bad));
            ofSome("clock of a source with a mark " + bad, Check.RANGE, x -> x.mark(3, bad, 5));
        }
    }

    private static void markWithoutRoomChangesNothing() {
        Check.sentence("What is refused changes nothing: mark, no room");
        changesNothing("a first mark", Check.NO_ROOM, RefusalTest::allMarks, x -> x.mark(8, 20, 5));
        changesNothing("a later mark", Check.NO_ROOM, RefusalTest::allMarks, x -> x.mark(1, 10, 900));
        changesNothing("its clock", Check.RANGE, RefusalTest::allMarks, x -> x.mark(8, -1, 900));
        changesNothing("its source", Check.UNKNOWN, RefusalTest::allMarks, x -> x.mark(10, 0, 900));
    }

    private static void questionsChangeNothing() {
        Check.sentence("What is refused changes nothing: questions");
        ofSome("offset -1", Check.UNKNOWN, x -> x.offset(-1));
        ofSome("offset 10", Check.UNKNOWN, x -> x.offset(10));
        ofSome("contradiction", Check.RANGE, x -> x.contradiction(-1));
        ofSome("find, unit", Check.UNKNOWN, x -> x.find(0, 1, 100, -1, 0));
        ofSome("find, incident", Check.UNKNOWN, x -> x.find(0, 1, -1, 50, 0));
        ofSome("find, i", Check.RANGE, x -> x.find(0, 1, -1, -1, -1));
        for (int bad : new int[] {-1, 5, MIN, MAX}) {
            ofSome("time " + bad, Check.UNKNOWN, x -> x.time(bad));
            ofSome("sum " + bad, Check.UNKNOWN, x -> x.sum(bad));
            ofSome("part " + bad, Check.UNKNOWN, x -> x.part(bad, 0, 1));
            ofSome("row " + bad, Check.UNKNOWN, x -> x.row(bad, 0));
            ofSome("row, what " + bad, Check.UNKNOWN, x -> x.row(0, bad));
            ofSome("certificate " + bad, Check.UNKNOWN, x -> x.certificate(bad, 0));
            ofSome("certificate, what " + bad, Check.UNKNOWN, x -> x.certificate(0, bad));
            ofSome("count " + bad, Check.UNKNOWN, x -> x.count(bad));
        }
        ofSome("time of a dropped one", Check.STATE, x -> x.time(3));
        ofSome("sum of a dropped one", Check.STATE, x -> x.sum(3));
        ofSome("part of a dropped one", Check.STATE, x -> x.part(3, MIN, MAX));
    }

    private static void holdChangesNothing() {
        Check.sentence("What is refused changes nothing: hold");
        for (int bad : new int[] {-1, 50, MIN, MAX}) {
            ofSome("hold on " + bad, Check.UNKNOWN, x -> x.hold(bad, true));
            ofSome("no hold on " + bad, Check.UNKNOWN, x -> x.hold(bad, false));
        }
        ofSome("it is so", Check.STATE, x -> x.hold(7, true));
        ofSome("there is none", Check.STATE, x -> x.hold(8, false));
    }

    private static void dropChangesNothing() {
        Check.sentence("What is refused changes nothing: drop");
        for (int bad : new int[] {-1, 5, MIN, MAX}) {
            ofSome("slot " + bad, Check.UNKNOWN, x -> x.drop(bad));
        }
        ofSome("a dropped one", Check.STATE, x -> x.drop(3));
        ofSome("one under a hold", Check.STATE, x -> x.drop(2));
    }

    private static void rightChangesNothing() {
        Check.sentence("What is refused changes nothing: right");
        for (boolean on : new boolean[] {true, false}) {
            for (int bad : new int[] {-1, 20, MIN, MAX}) {
                ofSome("person " + bad, Check.UNKNOWN, x -> x.right(bad, 0, on));
                ofSome("person " + bad + ", last incident", Check.UNKNOWN, x -> x.right(bad, 49, on));
            }
            for (int bad : new int[] {-1, 50, MIN, MAX}) {
                for (int person : new int[] {0, 4, 5, 18, 19}) {
                    ofSome("incident " + bad + " of " + person, Check.UNKNOWN, x -> x.right(person, bad, on));
                }
            }
        }
    }

    private static void pokeChangesNothing() {
        Check.sentence("What is refused changes nothing: poke");
        for (int bad : new int[] {-1, 5, MIN, MAX}) {
            ofSome("slot " + bad, Check.UNKNOWN, x -> x.poke(bad, 0, 1));
        }
        for (int bad : new int[] {-1, 3, 8, MIN, MAX}) {
            ofSome("byte " + bad, Check.RANGE, x -> x.poke(0, bad, 1));
        }
        for (int bad : new int[] {0, 256, -1, MIN, MAX}) {
            ofSome("mask " + bad, Check.RANGE, x -> x.poke(0, 0, bad));
        }
        ofSome("a dropped one", Check.STATE, x -> x.poke(3, 0, 1));
    }

    private static void listenOfUnknownChangesNothing() {
        Check.sentence("What is refused changes nothing: listen, no such person or slot");
        for (int bad : new int[] {-1, 20, MIN, MAX}) {
            ofSome("person " + bad, Check.UNKNOWN, x -> x.listen(bad, 1));
        }
        for (int bad : new int[] {-1, 5, MIN, MAX}) {
            ofSome("slot " + bad, Check.UNKNOWN, x -> x.listen(4, bad));
        }
    }

    private static void refusedListenChangesRowsAlone() {
        Check.sentence("What is refused changes nothing (but what is told by rows of listeners)");
        changesRowsAlone("no right", 0, 1);
        changesRowsAlone("dropped", 3, 3);
        changesRowsAlone("dropped and no right", 0, 3);
    }

    private static void changesRowsAlone(String what, int person, int slot) {
        Counted touched = new Counted();
        someOfAll(touched);
        tryToListen(touched, person, slot);
        Check.answers(what + ", a row more", 3, () -> touched.count(4));
        Check.answers(what + ", its person", person, () -> touched.row(2, 0));
        Check.answers(what + ", its slot", slot, () -> touched.row(2, 1));
        Check.answers(what + ", not allowed", 0, () -> touched.row(2, 2));
        Counted untouched = new Counted();
        someOfAll(untouched);
        int calls = Counted.MOST_CALLS - touched.used();
        same(what, Sight.butRows(touched, calls), Sight.butRows(untouched, calls));
    }

    private static void answersChangeNothing() {
        Check.sentence("the calls that only answer change nothing");
        Counted touched = new Counted();
        someOfAll(touched);
        touched.offset(3);
        touched.contradiction(0);
        touched.find(MIN, MAX, -1, -1, 0);
        touched.time(0);
        touched.sum(4);
        touched.part(4, 0, 2);
        touched.size(MIN, MAX);
        touched.export(MIN, MAX);
        touched.certificate(0, 1);
        touched.row(0, 0);
        touched.verify();
        touched.count(0);
        Counted untouched = new Counted();
        someOfAll(untouched);
        int calls = Counted.MOST_CALLS - touched.used();
        same("questions", Sight.of(touched, calls), Sight.of(untouched, calls));
    }
}
