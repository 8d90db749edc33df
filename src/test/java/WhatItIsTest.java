import java.util.function.Consumer;
import java.util.function.ObjIntConsumer;
import java.util.function.ToIntFunction;

/** "An object is used for at most 512 calls after it has been made": all of them, the 512th too, answer as the document says. */
public final class WhatItIsTest {
    private static final int MIN = Integer.MIN_VALUE;
    private static final int MAX = Integer.MAX_VALUE;

    private static ObjIntConsumer<Counted> filling;
    private static String filled;

    public static void main(String[] args) {
        Check.sentence("An object is used for at most 512 calls after it has been made");
        eachAsThe512th("questions", WhatItIsTest::ask);
        eachAsThe512th("refused calls", WhatItIsTest::beRefused);
        eachAsThe512th("rights and holds", WhatItIsTest::change);
        refusedAsThe512th();
        all512ChangeSomething();
        all512AreTries();
        Check.finish();
    }

    private static void eachAsThe512th(String what, ObjIntConsumer<Counted> filler) {
        filled = what;
        filling = filler;
        last("slot", 4, x -> x.slot(9, 9999999, 8, -1L, 99, 49));
        last("mark", 3, x -> x.mark(9, 9999999, 0));
        last("offset", -10, x -> x.offset(1));
        last("contradiction", 1, x -> x.contradiction(0));
        last("find", 2, x -> x.find(0, 1000, 4, 8, 0));
        last("time", 90, x -> x.time(1));
        last("sum", Check.sumOf(0x61, 0xE2, 0x63, 0x64), x -> x.sum(1));
        last("part", Check.sumOf(0xE2), x -> x.part(1, 91, 92));
        last("size", 9, x -> x.size(MIN, MAX));
        last("export", Check.sumOf(0x63, 0x64, 0x41), x -> x.export(92, 96));
        last("drop", 1, x -> x.drop(0));
        last("certificate", Check.sumOf(0x31), x -> x.certificate(0, 1));
        last("listen", Check.sumOf(0x41, 0x42, 0x43), x -> x.listen(2, 0));
        last("row", 3, x -> x.row(1, 0));
        last("verify", 1, Counted::verify);
        last("count", 2, x -> x.count(4));
        last("hold", 0, x -> done(() -> x.hold(49, true)));
        last("right", 0, x -> done(() -> x.right(19, 49, false)));
        last("poke", 0, x -> done(() -> x.poke(2, 1, 255)));
    }

    private static int done(Runnable call) {
        call.run();
        return 0;
    }

    private static void last(String what, int due, ToIntFunction<Counted> call) {
        Counted x = almostUsedUp();
        Check.answers(what + " behind " + filled, due, () -> call.applyAsInt(x));
        Check.due("it was the 512th", Counted.MOST_CALLS, x.used());
    }

    /** Four slots, of which one is bad and one dropped, three marks, of which one contradicts, two rows, a hold. */
    private static Counted almostUsedUp() {
        Counted x = new Counted();
        x.slot(0, 95, 3, 0x414243L, 3, 7);
        x.slot(1, 100, 4, 0x61626364L, 4, 7);
        x.slot(0, 200, 2, 0x2122L, 4, 8);
        x.slot(2, 300, 1, 0x31L, 5, 7);
        x.mark(1, 100, 90);
        x.mark(1, 200, 195);
        x.mark(2, 7, 7);
        x.poke(1, 1, 0x80);
        x.drop(3);
        x.right(2, 7, true);
        x.listen(2, 0);
        Check.refuses("no right", Check.STATE, () -> x.listen(3, 1));
        x.hold(8, true);
        for (int k = 0; x.used() < Counted.MOST_CALLS - 1; k++) {
            filling.accept(x, k);
        }
        return x;
    }

    private static void ask(Counted x, int k) {
        switch (k % 6) {
            case 0: x.count(k % 5); break;
            case 1: x.find(MIN, MAX, -1, -1, k); break;
            case 2: x.export(MIN, k); break;
            case 3: x.verify(); break;
            case 4: x.sum(k % 3); break;
            default: x.contradiction(k); break;
        }
    }

    private static void beRefused(Counted x, int k) {
        switch (k % 5) {
            case 0: Check.refuses("slot", Check.RANGE, () -> x.slot(0, -1, 1, 1, 0, 0)); break;
            case 1: Check.refuses("mark", Check.UNKNOWN, () -> x.mark(10, 0, 0)); break;
            case 2: Check.refuses("drop", Check.STATE, () -> x.drop(2)); break;
            case 3: Check.refuses("listen", Check.UNKNOWN, () -> x.listen(20, 0)); break;
            default: Check.refuses("poke", Check.STATE, () -> x.poke(3, 0, 1)); break;
        }
    }

    private static void change(Counted x, int k) {
        if (k % 2 == 0) {
            x.right(4 + k % 16, k / 2 % 50, true);
        } else {
            x.hold(9, k / 2 % 2 == 0);
        }
    }

    private static void refusedAsThe512th() {
        filled = "questions";
        filling = WhatItIsTest::ask;
        refusedLast("unknown", Check.UNKNOWN, x -> x.sum(4));
        refusedLast("range", Check.RANGE, x -> x.contradiction(-1));
        refusedLast("state", Check.STATE, x -> x.drop(2));
        Counted full = new Counted();
        for (int k = 0; k < 511; k++) {
            if (k < 200) {
                full.slot(0, k, 1, k, 0, 0);
            } else {
                full.count(0);
            }
        }
        Check.refuses("no room, as the 512th", Check.NO_ROOM, () -> full.slot(0, 0, 1, 1, 0, 0));
    }

    private static void refusedLast(String what, Class<? extends RuntimeException> due, Consumer<Counted> call) {
        Counted x = almostUsedUp();
        Check.refuses(what + ", as the 512th", due, () -> call.accept(x));
    }

    private static void all512ChangeSomething() {
        Counted x = new Counted();
        for (int k = 0; k < 200; k++) {
            int number = k;
            Check.answers("slot " + k, number, () -> x.slot(number % 10, 3 * number, 1 + number % 8, number, 0, 0));
        }
        for (int k = 0; k < 60; k++) {
            int number = k;
            Check.answers("mark " + k, number, () -> x.mark(number % 10, number, 2 * number));
        }
        for (int k = 0; k < 52; k++) {
            int number = k;
            Check.passes("poke " + k, () -> x.poke(number, number % 8, 128));
        }
        for (int k = 0; k < 200; k++) {
            int number = k;
            Check.answers("drop " + (199 - k), number, () -> x.drop(199 - number));
        }
        Check.due("512 calls", Counted.MOST_CALLS, x.used());
    }

    private static void all512AreTries() {
        Counted x = new Counted();
        x.slot(0, 0, 1, 5, 0, 0);
        x.right(1, 0, true);
        while (x.used() < Counted.MOST_CALLS - 3) {
            if (x.used() % 2 == 0) {
                Check.refuses("no right", Check.STATE, () -> x.listen(0, 0));
            } else {
                Check.answers("listen", Check.sumOf(5), () -> x.listen(1, 0));
            }
        }
        Check.refuses("row 306 is gone", Check.UNKNOWN, () -> x.row(306, 2));
        Check.answers("row 307 is kept", 1, () -> x.row(307, 0));
        Check.answers("507 rows ever", 507, () -> x.count(4));
    }
}
