import java.util.LinkedHashMap;
import java.util.Map;
import java.util.TreeSet;
import java.util.function.Consumer;

/**
 * "Nothing is promised beyond the answers and state changes described above": each call changes what the document says of
 * it, and nothing else that can be seen. Two objects are made by the same calls, one has the call too, and the questions
 * that they answer otherwise are just those that are named.
 */
public final class ChangesTest {
    private static final int LAST = 9999999;

    public static void main(String[] args) {
        slotChangesTheLine();
        slotUnderAHoldIsASlot();
        firstMarkMovesItsSource();
        laterMarkMovesNothing();
        holdChangesDropsAlone();
        dropTakesTheSlotAlone();
        rightChangesListeningAlone();
        listenChangesRowsAlone();
        pokeChangesBytesAlone();
        Check.finish();
    }

    /** The calls before are RefusalTest's someOfAll: slots 0 .. 4, of which 3 is dropped and 4 is bad, a hold on 7. */
    private static void changes(String what, Consumer<Counted> call, String... due) {
        Counted touched = new Counted();
        RefusalTest.someOfAll(touched);
        Check.passes(what, () -> call.accept(touched));
        Counted untouched = new Counted();
        RefusalTest.someOfAll(untouched);
        int calls = Counted.MOST_CALLS - touched.used();
        TreeSet<String> other = new TreeSet<>();
        Map<String, String> before = answersOf(Sight.of(untouched, calls));
        Map<String, String> after = answersOf(Sight.of(touched, calls));
        for (String question : before.keySet()) {
            if (after.containsKey(question) && !after.get(question).equals(before.get(question))) {
                other.add(question);
            }
        }
        TreeSet<String> named = new TreeSet<>(java.util.List.of(due));
        Check.due(what + " changed " + other + ", due is " + named + ":", 1, other.equals(named) ? 1 : 0);
    }

    private static Map<String, String> answersOf(String sight) {
        Map<String, String> answers = new LinkedHashMap<>();
        for (String line : sight.split("\n")) {
            int colon = line.indexOf(": ");
            answers.put(line.substring(0, colon), line.substring(colon + 2));
        }
        return answers;
    }

    private static void slotChangesTheLine() {
        Check.sentence("2: A slot");
        changes("a slot behind all others", x -> x.slot(0, LAST, 2, 0x0102L, 9, 9),
                "count 0", "count 1", "size", "export", "find 4", "sum 5", "time 5", "next slot");
        changes("a slot of unit 0, and of an incident with rights", x -> x.slot(0, LAST, 2, 0x0102L, 0, 49),
                "count 0", "count 1", "size", "export", "find 4", "find of unit 0 1", "sum 5", "time 5", "next slot");
    }

    private static void slotUnderAHoldIsASlot() {
        Check.sentence("12: A hold on an incident (is asked by drop alone)");
        changes("a slot of an incident under a hold", x -> x.slot(0, LAST, 1, 0x01L, 9, 7),
                "count 0", "count 1", "size", "export", "find 4", "sum 5", "time 5", "next slot");
    }

    private static void firstMarkMovesItsSource() {
        Check.sentence("3: A mark, the first one of its source");
        changes("of a source with a bad slot", x -> x.mark(4, 0, 500),
                "count 2", "offset 4", "time 4", "export", "find 1", "find 2", "find 3", "next mark");
        changes("of a source without slots", x -> x.mark(8, 0, 500), "count 2", "offset 8", "next mark");
        changes("that tells the clock is right", x -> x.mark(4, 500, 500), "count 2", "next mark");
    }

    private static void laterMarkMovesNothing() {
        Check.sentence("3: A mark, not the first one of its source");
        changes("with the same offset", x -> x.mark(3, 1000, 995), "count 2", "next mark");
        changes("that contradicts", x -> x.mark(9, 0, 0), "count 2", "next mark", "contradiction 1");
    }

    private static void holdChangesDropsAlone() {
        Check.sentence("12: A hold on an incident, or none any more");
        changes("on an incident with a bad slot", x -> x.hold(8, true), "hold 8");
        changes("on an incident with rights", x -> x.hold(49, true), "hold 49");
        changes("none any more", x -> x.hold(7, false), "hold 7");
        changes("on an incident without slots", x -> x.hold(20, true), "hold 20");
    }

    private static void dropTakesTheSlotAlone() {
        Check.sentence("13: Drops a slot");
        changes("a bad one", x -> x.drop(4), "count 1", "count 3", "verify", "size", "export", "time 4", "sum 4",
                "find 1", "find 2", "find 3", "certificate 0 of 1", "certificate 1 of 1", "certificate 2 of 1");
        changes("one that was listened to", x -> x.drop(1), "count 1", "count 3", "size", "export", "time 1", "sum 1",
                "find 0", "find 1", "find 2", "find 3", "certificate 0 of 1", "certificate 1 of 1", "certificate 2 of 1",
                "listen to 1 by 4");
    }

    private static void rightChangesListeningAlone() {
        Check.sentence("15: A person's right on an incident, or none any more");
        changes("on an incident under a hold", x -> x.right(0, 7, true), "listen to 2 by 0");
        changes("on an incident with a bad slot", x -> x.right(19, 8, true), "listen to 4 by 19");
        changes("that is so", x -> x.right(4, 49, true));
        changes("none any more", x -> x.right(4, 49, false), "listen to 1 by 4");
        changes("none, as before", x -> x.right(4, 0, false));
    }

    private static void listenChangesRowsAlone() {
        Check.sentence("16: A person listens to a slot");
        changes("once", x -> x.listen(4, 1), "count 4", "row 2 0", "row 2 1", "row 2 2");
        changes("three times the same", x -> {
            for (int k = 0; k < 3; k++) {
                x.listen(4, 1);
            }
            Check.answers("five rows", 5, () -> x.count(4));
            Check.answers("the middle one", 1, () -> x.row(3, 2));
        }, "count 4");
        changes("three times the same, refused", x -> {
            for (int k = 0; k < 3; k++) {
                Check.refuses("a dropped slot", Check.STATE, () -> x.listen(3, 3));
            }
            Check.answers("five rows", 5, () -> x.count(4));
            Check.answers("the middle one", 0, () -> x.row(3, 2));
        }, "count 4");
    }

    private static void pokeChangesBytesAlone() {
        Check.sentence("18: Byte i of a slot is altered by a mask");
        changes("of a good one", x -> x.poke(0, 2, 255), "sum 0", "verify", "export", "listen to 0 by 19");
        changes("of one under a hold", x -> x.poke(2, 0, 1), "sum 2", "verify", "export", "listen to 2 by 3");
        changes("that makes a bad one good", x -> x.poke(4, 1, 16), "sum 4", "verify", "export");
        changes("twice", x -> {
            x.poke(1, 7, 9);
            x.poke(1, 7, 9);
        });
    }
}
