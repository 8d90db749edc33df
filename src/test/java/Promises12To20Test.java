/** Each sentence of promises 12 to 20 that names a boundary has a test of its own here, beside ordinary inputs. */
public final class Promises12To20Test {
    private static final int MIN = Integer.MIN_VALUE;
    private static final int MAX = Integer.MAX_VALUE;

    public static void main(String[] args) {
        holdOnAndOff();
        holdOfUnknown();
        holdThatIsSo();
        dropAnswersItsCertificate();
        dropOfUnknown();
        dropOfDropped();
        dropUnderAHold();
        dropsAsManyAsCanBe();
        certificateTellsThreeThings();
        certificateStaysAsItIs();
        certificateOfUnknown();
        certificateOfNoSuchWhat();
        rightOnAndOff();
        rightMayBeSoAlready();
        rightOfUnknown();
        rightsOfEachPersonAndIncident();
        listenAnswersTheSum();
        listenOfUnknown();
        listenToDropped();
        listenWithoutRight();
        listenKeepsARowAllTheSame();
        listenOfUnknownKeepsNoRow();
        rowTellsThreeThings();
        rowsAreNumberedOfAll();
        rowsNoLongerKept();
        rowOfUnknown();
        rowOfNoSuchWhat();
        pokeIsExclusiveOr();
        pokeTakesEachByte();
        pokeTakesEachMask();
        pokeOfUnknown();
        pokeOfNoSuchByte();
        pokeOfNoSuchMask();
        pokeOfDropped();
        verifyIsTheLowestBad();
        verifyWithoutOne();
        verifyIsOfThoseThere();
        verifyOfTheLastSlot();
        countTellsFiveThings();
        countOfRowsGoesOn();
        countOfFull();
        countOfNoSuchWhat();
        Check.finish();
    }

    private static void holdOnAndOff() {
        Check.sentence("12: A hold on an incident, or none any more");
        Counted x = new Counted();
        x.slot(0, 0, 1, 1, 0, 20);
        Check.passes("on", () -> x.hold(20, true));
        Check.refuses("it holds", Check.STATE, () -> x.drop(0));
        Check.passes("off", () -> x.hold(20, false));
        Check.passes("on again", () -> x.hold(20, true));
        Check.refuses("it holds again", Check.STATE, () -> x.drop(0));
        Check.passes("off again", () -> x.hold(20, false));
        Check.answers("none any more", 0, () -> x.drop(0));
        Check.passes("on an incident without slots", () -> x.hold(21, true));
    }

    private static void holdOfUnknown() {
        Check.sentence("12: Unknown: no such incident");
        Counted x = new Counted();
        Check.passes("the first", () -> x.hold(0, true));
        Check.passes("the last", () -> x.hold(49, true));
        for (int bad : new int[] {-1, 50, MIN, MAX}) {
            Check.refuses("on, " + bad, Check.UNKNOWN, () -> x.hold(bad, true));
            Check.refuses("off, " + bad, Check.UNKNOWN, () -> x.hold(bad, false));
        }
        Check.passes("the first's end", () -> x.hold(0, false));
        Check.passes("the last's end", () -> x.hold(49, false));
    }

    private static void holdThatIsSo() {
        Check.sentence("12: state: it is so");
        Counted x = new Counted();
        for (int incident : new int[] {0, 1, 48, 49}) {
            Check.refuses("none yet, " + incident, Check.STATE, () -> x.hold(incident, false));
            Check.passes("on, " + incident, () -> x.hold(incident, true));
            Check.refuses("on already, " + incident, Check.STATE, () -> x.hold(incident, true));
        }
        for (int incident : new int[] {0, 1, 48, 49}) {
            Check.passes("off, " + incident, () -> x.hold(incident, false));
            Check.refuses("off already, " + incident, Check.STATE, () -> x.hold(incident, false));
        }
    }

    private static void dropAnswersItsCertificate() {
        Check.sentence("13: Drops a slot: the number of its certificate (0, 1, ..)");
        Counted x = new Counted();
        x.slot(0, 0, 1, 1, 0, 0);
        x.slot(0, 0, 1, 2, 0, 0);
        x.slot(0, 0, 1, 3, 0, 0);
        Check.answers("0", 0, () -> x.drop(2));
        Check.refuses("a refused one", Check.STATE, () -> x.drop(2));
        Check.answers("1", 1, () -> x.drop(0));
        Check.answers("2", 2, () -> x.drop(1));
        Check.answers("three certificates", 3, () -> x.count(3));
        Check.answers("none there", 0, () -> x.count(1));
        Check.answers("three slots ever", 3, () -> x.count(0));
    }

    private static void dropOfUnknown() {
        Check.sentence("13: Unknown: there is none such");
        Counted x = new Counted();
        x.slot(0, 0, 1, 1, 0, 0);
        x.slot(0, 0, 1, 2, 0, 0);
        for (int bad : new int[] {-1, 2, 200, MIN, MAX}) {
            Check.refuses("slot " + bad, Check.UNKNOWN, () -> x.drop(bad));
        }
        Check.answers("the last", 0, () -> x.drop(1));
        Check.answers("the first", 1, () -> x.drop(0));
    }

    private static void dropOfDropped() {
        Check.sentence("13: state: it is dropped");
        Counted x = new Counted();
        x.slot(0, 0, 1, 1, 0, 0);
        x.drop(0);
        Check.refuses("once more", Check.STATE, () -> x.drop(0));
        Check.answers("one certificate", 1, () -> x.count(3));
        x.slot(0, 0, 1, 1, 0, 0);
        Check.refuses("though there is another", Check.STATE, () -> x.drop(0));
        Check.answers("which has its own", 1, () -> x.drop(1));
    }

    private static void dropUnderAHold() {
        Check.sentence("13: state: .. or its incident is under a hold");
        Counted x = new Counted();
        x.slot(0, 7, 1, 1, 7, 8);
        x.slot(0, 8, 1, 2, 8, 7);
        x.hold(7, true);
        Check.refuses("under a hold", Check.STATE, () -> x.drop(1));
        Check.answers("it is there", 8, () -> x.time(1));
        Check.answers("no certificate", 0, () -> x.count(3));
        Check.answers("the unit's number is no incident's", 0, () -> x.drop(0));
        x.hold(7, false);
        Check.answers("no hold any more", 1, () -> x.drop(1));
        x.hold(7, true);
        Check.refuses("dropped and held", Check.STATE, () -> x.drop(1));
    }

    private static void dropsAsManyAsCanBe() {
        Check.sentence("13: the number of its certificate: as many as can be");
        Counted x = new Counted();
        for (int k = 0; k < 200; k++) {
            x.slot(k % 10, k, 1, k, 0, 0);
        }
        for (int k = 0; k < 200; k++) {
            int number = k;
            Check.answers("drop " + (199 - k), number, () -> x.drop(199 - number));
        }
        Check.answers("the first certificate", 199, () -> x.certificate(0, 0));
        Check.answers("the last certificate", 0, () -> x.certificate(199, 0));
        Check.answers("the first's sum", Check.sumOf(199), () -> x.certificate(0, 1));
        Check.refuses("no certificate 200", Check.UNKNOWN, () -> x.certificate(200, 0));
    }

    private static void certificateTellsThreeThings() {
        Check.sentence("14: Of a certificate 0 its slot, 1 the sum that was kept, 2 the sum of its bytes as it was dropped");
        Counted x = new Counted();
        x.slot(0, 0, 2, 0x0102, 0, 0);
        x.slot(0, 0, 2, 0x0304, 0, 0);
        x.poke(1, 0, 0x70);
        x.drop(1);
        x.drop(0);
        Check.answers("0, its slot", 1, () -> x.certificate(0, 0));
        Check.answers("0, kept", Check.sumOf(3, 4), () -> x.certificate(0, 1));
        Check.answers("0, as dropped", Check.sumOf(0x73, 4), () -> x.certificate(0, 2));
        Check.answers("1, its slot", 0, () -> x.certificate(1, 0));
        Check.answers("1, kept", Check.sumOf(1, 2), () -> x.certificate(1, 1));
        Check.answers("1, as dropped", Check.sumOf(1, 2), () -> x.certificate(1, 2));
    }

    private static void certificateStaysAsItIs() {
        Check.sentence("14: .. as it was dropped");
        Counted x = new Counted();
        x.slot(0, 0, 2, 0x0102, 0, 0);
        x.slot(0, 0, 2, 0x0304, 0, 0);
        x.poke(0, 1, 1);
        x.drop(0);
        Check.refuses("no poke of a dropped one", Check.STATE, () -> x.poke(0, 1, 1));
        x.poke(1, 0, 5);
        x.drop(1);
        x.slot(0, 0, 2, 0x0506, 0, 0);
        Check.answers("its slot", 0, () -> x.certificate(0, 0));
        Check.answers("kept", Check.sumOf(1, 2), () -> x.certificate(0, 1));
        Check.answers("as dropped", Check.sumOf(1, 3), () -> x.certificate(0, 2));
    }

    private static void certificateOfUnknown() {
        Check.sentence("14: Unknown: there is none such");
        Counted x = new Counted();
        for (int k = 0; k < 4; k++) {
            x.slot(0, 0, 1, k, 0, 0);
        }
        Check.refuses("slots make none", Check.UNKNOWN, () -> x.certificate(0, 0));
        x.drop(3);
        x.drop(2);
        Check.answers("the first", 3, () -> x.certificate(0, 0));
        Check.answers("the last", 2, () -> x.certificate(1, 0));
        for (int bad : new int[] {-1, 2, 3, 200, MIN, MAX}) {
            for (int what = 0; what <= 2; what++) {
                int w = what;
                Check.refuses("certificate " + bad + ", " + w, Check.UNKNOWN, () -> x.certificate(bad, w));
            }
        }
    }

    private static void certificateOfNoSuchWhat() {
        Check.sentence("14: Unknown: .. or no such what");
        Counted x = new Counted();
        x.slot(0, 0, 1, 9, 0, 0);
        x.drop(0);
        Check.answers("0", 0, () -> x.certificate(0, 0));
        Check.answers("2", Check.sumOf(9), () -> x.certificate(0, 2));
        for (int bad : new int[] {-1, 3, MIN, MAX}) {
            Check.refuses("what " + bad, Check.UNKNOWN, () -> x.certificate(0, bad));
            Check.refuses("and no certificate", Check.UNKNOWN, () -> x.certificate(1, bad));
        }
    }

    private static void rightOnAndOff() {
        Check.sentence("15: A person's right on an incident, or none any more");
        Counted x = new Counted();
        x.slot(0, 0, 1, 9, 0, 49);
        x.slot(0, 0, 1, 8, 0, 49);
        Check.passes("on", () -> x.right(19, 49, true));
        Check.answers("may listen", Check.sumOf(9), () -> x.listen(19, 0));
        Check.answers("to all slots of it", Check.sumOf(8), () -> x.listen(19, 1));
        Check.passes("off", () -> x.right(19, 49, false));
        Check.refuses("none any more", Check.STATE, () -> x.listen(19, 0));
        Check.passes("on again", () -> x.right(19, 49, true));
        Check.answers("may listen again", Check.sumOf(9), () -> x.listen(19, 0));
    }

    private static void rightMayBeSoAlready() {
        Check.sentence("15: A person's right: no state refuses it");
        Counted x = new Counted();
        x.slot(0, 0, 1, 9, 0, 3);
        Check.passes("off, none yet", () -> x.right(2, 3, false));
        Check.refuses("none", Check.STATE, () -> x.listen(2, 0));
        Check.passes("on", () -> x.right(2, 3, true));
        Check.passes("on twice", () -> x.right(2, 3, true));
        Check.answers("one", Check.sumOf(9), () -> x.listen(2, 0));
        Check.passes("off", () -> x.right(2, 3, false));
        Check.refuses("off once ends it", Check.STATE, () -> x.listen(2, 0));
        Check.passes("off twice", () -> x.right(2, 3, false));
        Check.answers("rights make no rows", 3, () -> x.count(4));
    }

    private static void rightOfUnknown() {
        Check.sentence("15: Unknown: no such person or incident");
        Counted x = new Counted();
        Check.passes("the first ones", () -> x.right(0, 0, true));
        Check.passes("the last ones", () -> x.right(19, 49, true));
        for (boolean on : new boolean[] {true, false}) {
            for (int bad : new int[] {-1, 20, MIN, MAX}) {
                Check.refuses("person " + bad, Check.UNKNOWN, () -> x.right(bad, 0, on));
            }
            for (int bad : new int[] {-1, 50, MIN, MAX}) {
                Check.refuses("incident " + bad, Check.UNKNOWN, () -> x.right(0, bad, on));
            }
            Check.refuses("neither", Check.UNKNOWN, () -> x.right(20, 50, on));
        }
    }

    private static void rightsOfEachPersonAndIncident() {
        Check.sentence("15: A person's right on an incident: each has its own");
        for (int person : new int[] {0, 1, 18, 19}) {
            for (int incident : new int[] {0, 1, 48, 49}) {
                Counted x = new Counted();
                int[] incidents = {0, 1, 48, 49};
                for (int k : incidents) {
                    x.slot(0, 0, 1, 7, 0, k);
                }
                x.right(person, incident, true);
                for (int k = 0; k < 80; k++) {
                    int p = k % 20;
                    int slot = k / 20;
                    if (p == person && incidents[slot] == incident) {
                        Check.answers("has it", Check.sumOf(7), () -> x.listen(p, slot));
                    } else {
                        Check.refuses(p + " has none on " + incidents[slot], Check.STATE, () -> x.listen(p, slot));
                    }
                }
            }
        }
    }

    private static void listenAnswersTheSum() {
        Check.sentence("16: A person listens to a slot: its sum");
        Counted x = new Counted();
        x.slot(0, 0, 2, 0x0506, 0, 3);
        x.right(4, 3, true);
        Check.answers("the sum", Check.sumOf(5, 6), () -> x.listen(4, 0));
        x.poke(0, 1, 1);
        Check.answers("the sum now", Check.sumOf(5, 7), () -> x.listen(4, 0));
        x.hold(3, true);
        Check.answers("under a hold", Check.sumOf(5, 7), () -> x.listen(4, 0));
        x.mark(0, 100, 0);
        Check.answers("below 0", Check.sumOf(5, 7), () -> x.listen(4, 0));
    }

    private static void listenOfUnknown() {
        Check.sentence("16: Unknown: no such person or slot");
        Counted x = new Counted();
        x.slot(0, 0, 1, 1, 0, 3);
        x.slot(0, 0, 1, 2, 0, 3);
        x.right(0, 3, true);
        x.right(19, 3, true);
        Check.answers("the first ones", Check.sumOf(1), () -> x.listen(0, 0));
        Check.answers("the last ones", Check.sumOf(2), () -> x.listen(19, 1));
        for (int bad : new int[] {-1, 20, MIN, MAX}) {
            Check.refuses("person " + bad, Check.UNKNOWN, () -> x.listen(bad, 0));
        }
        for (int bad : new int[] {-1, 2, 200, MIN, MAX}) {
            Check.refuses("slot " + bad, Check.UNKNOWN, () -> x.listen(0, bad));
        }
    }

    private static void listenToDropped() {
        Check.sentence("16: state: it is dropped");
        Counted x = new Counted();
        x.slot(0, 0, 1, 1, 0, 3);
        x.right(0, 3, true);
        Check.answers("while it is there", Check.sumOf(1), () -> x.listen(0, 0));
        x.drop(0);
        Check.refuses("with the right", Check.STATE, () -> x.listen(0, 0));
        Check.refuses("without it", Check.STATE, () -> x.listen(1, 0));
    }

    private static void listenWithoutRight() {
        Check.sentence("16: state: .. or the person has no right");
        Counted x = new Counted();
        x.slot(0, 0, 1, 1, 4, 3);
        x.slot(0, 0, 1, 1, 3, 4);
        x.right(6, 3, true);
        Check.refuses("another person below", Check.STATE, () -> x.listen(5, 0));
        Check.refuses("another person above", Check.STATE, () -> x.listen(7, 0));
        Check.refuses("another incident, though the unit is 3", Check.STATE, () -> x.listen(6, 1));
        Check.answers("with the right", Check.sumOf(1), () -> x.listen(6, 0));
    }

    private static void rowIs(Counted x, int i, int person, int slot, int allowed) {
        Check.answers("row " + i + ", person", person, () -> x.row(i, 0));
        Check.answers("row " + i + ", slot", slot, () -> x.row(i, 1));
        Check.answers("row " + i + ", allowed", allowed, () -> x.row(i, 2));
    }

    private static void listenKeepsARowAllTheSame() {
        Check.sentence("16: (a row is kept all the same when there is such a person and slot)");
        Counted x = new Counted();
        x.slot(0, 0, 1, 1, 0, 3);
        x.slot(0, 0, 1, 1, 0, 3);
        x.right(6, 3, true);
        Check.refuses("no right", Check.STATE, () -> x.listen(5, 1));
        Check.answers("one row", 1, () -> x.count(4));
        x.drop(1);
        Check.refuses("dropped", Check.STATE, () -> x.listen(6, 1));
        Check.answers("two rows", 2, () -> x.count(4));
        Check.refuses("dropped and no right", Check.STATE, () -> x.listen(19, 1));
        Check.answers("three rows", 3, () -> x.count(4));
        rowIs(x, 0, 5, 1, 0);
        rowIs(x, 1, 6, 1, 0);
        rowIs(x, 2, 19, 1, 0);
    }

    private static void listenOfUnknownKeepsNoRow() {
        Check.sentence("16: (a row is kept .. when there is such a person and slot): else none");
        Counted x = new Counted();
        x.slot(0, 0, 1, 1, 0, 3);
        x.right(6, 3, true);
        x.listen(6, 0);
        for (int bad : new int[] {-1, 20}) {
            Check.refuses("person " + bad, Check.UNKNOWN, () -> x.listen(bad, 0));
        }
        for (int bad : new int[] {-1, 1}) {
            Check.refuses("slot " + bad, Check.UNKNOWN, () -> x.listen(6, bad));
        }
        Check.refuses("neither", Check.UNKNOWN, () -> x.listen(20, 1));
        Check.answers("one row", 1, () -> x.count(4));
        rowIs(x, 0, 6, 0, 1);
        Check.refuses("no second", Check.UNKNOWN, () -> x.row(1, 0));
    }

    private static void rowTellsThreeThings() {
        Check.sentence("17: Of row i of listeners 0 the person, 1 the slot, 2 whether it was allowed (1, 0)");
        Counted x = new Counted();
        for (int k = 0; k < 3; k++) {
            x.slot(0, 0, 1, 1, 0, k);
        }
        x.right(19, 2, true);
        x.right(0, 0, true);
        x.listen(19, 2);
        x.listen(0, 0);
        Check.refuses("a refused try", Check.STATE, () -> x.listen(19, 1));
        rowIs(x, 0, 19, 2, 1);
        rowIs(x, 1, 0, 0, 1);
        rowIs(x, 2, 19, 1, 0);
        x.right(19, 2, false);
        x.right(19, 1, true);
        x.drop(0);
        rowIs(x, 0, 19, 2, 1);
        rowIs(x, 1, 0, 0, 1);
        rowIs(x, 2, 19, 1, 0);
    }

    /** Persons and slots come round at steps that do not divide 200, so that rows 200 apart are not alike. */
    private static Counted withRows(int ever) {
        Counted x = new Counted();
        for (int slot = 0; slot < 7; slot++) {
            x.slot(0, slot, 1, slot, 0, 0);
        }
        for (int person = 0; person < 19; person += 2) {
            x.right(person, 0, true);
        }
        for (int k = 0; k < ever; k++) {
            int i = k;
            if (i % 19 % 2 == 0) {
                Check.answers("try " + i, Check.sumOf(i % 7), () -> x.listen(i % 19, i % 7));
            } else {
                Check.refuses("try " + i, Check.STATE, () -> x.listen(i % 19, i % 7));
            }
        }
        return x;
    }

    private static void rowOfMany(Counted x, int i, int what) {
        int[] due = {i % 19, i % 7, i % 19 % 2 == 0 ? 1 : 0};
        Check.answers("row " + i + ", " + what, due[what], () -> x.row(i, what));
    }

    private static void rowsAreNumberedOfAll() {
        Check.sentence("17: row i (of all, 0 first; the latest 200 are kept)");
        for (int ever : new int[] {1, 2, 199, 200, 201, 202, 270, 399, 400, 401}) {
            for (int what = 0; what <= 2; what++) {
                Counted x = withRows(ever);
                int first = Math.max(0, ever - 200);
                int step = ever <= 270 ? 1 : 3;
                for (int i = first; i < ever; i += step) {
                    rowOfMany(x, i, what);
                }
                rowOfMany(x, ever - 1, what);
            }
        }
    }

    private static void rowsNoLongerKept() {
        Check.sentence("17: Unknown: there is none such (kept): rows no longer kept");
        for (int ever : new int[] {200, 201, 202, 399, 400, 401, 470}) {
            Counted x = withRows(ever);
            int first = ever - 200;
            rowOfMany(x, first, 0);
            for (int bad : new int[] {first - 1, first - 2, first / 2 - 1, first - 200, 0}) {
                if (bad < first) {
                    Check.refuses("row " + bad + " of " + ever, Check.UNKNOWN, () -> x.row(bad, 0));
                }
            }
            if (first == 0) {
                rowOfMany(x, 0, 2);
            }
        }
    }

    private static void rowOfUnknown() {
        Check.sentence("17: Unknown: there is none such (kept)");
        for (int ever : new int[] {0, 1, 5, 199, 200, 201, 400}) {
            Counted x = withRows(ever);
            for (int bad : new int[] {-1, ever, ever + 1, ever + 199, ever + 200, MIN, MAX}) {
                for (int what = 0; what <= 2; what++) {
                    int w = what;
                    Check.refuses("row " + bad + " of " + ever, Check.UNKNOWN, () -> x.row(bad, w));
                }
            }
        }
    }

    private static void rowOfNoSuchWhat() {
        Check.sentence("17: Unknown: .. or no such what");
        Counted x = withRows(3);
        rowOfMany(x, 2, 0);
        rowOfMany(x, 2, 2);
        for (int bad : new int[] {-1, 3, MIN, MAX}) {
            Check.refuses("what " + bad, Check.UNKNOWN, () -> x.row(2, bad));
            Check.refuses("and no such row", Check.UNKNOWN, () -> x.row(3, bad));
        }
    }

    private static void pokeIsExclusiveOr() {
        Check.sentence("18: Byte i of a slot is altered by a mask (exclusive or)");
        Counted x = new Counted();
        x.slot(0, 100, 3, 0x010203L, 0, 0);
        x.slot(0, 100, 3, 0x010203L, 0, 0);
        x.poke(0, 1, 0x0F);
        Check.answers("bits go on and off", Check.sumOf(1, 0x0D, 3), () -> x.sum(0));
        x.poke(0, 1, 0xF0);
        Check.answers("on top of the first", Check.sumOf(1, 0xFD, 3), () -> x.sum(0));
        x.poke(0, 1, 0xFF);
        Check.answers("all bits", Check.sumOf(1, 2, 3), () -> x.sum(0));
        x.poke(0, 1, 2);
        Check.answers("to 0", Check.sumOf(1, 0, 3), () -> x.sum(0));
        Check.answers("another slot stays", Check.sumOf(1, 2, 3), () -> x.sum(1));
    }

    private static void pokeTakesEachByte() {
        Check.sentence("18: Byte i of a slot: the first to the last");
        for (int n = 1; n <= 8; n++) {
            Counted x = new Counted();
            x.slot(0, 100, n, 0L, 0, 0);
            for (int k = 0; k < n; k++) {
                int i = k;
                Check.passes("byte " + i + " of " + n, () -> x.poke(0, i, 0xA5));
                Check.answers("it is altered", Check.sumOf(0xA5), () -> x.part(0, 100 + i, 101 + i));
                int[] due = new int[n];
                due[i] = 0xA5;
                Check.answers("no other is", Check.sumOf(due), () -> x.sum(0));
                x.poke(0, i, 0xA5);
            }
        }
    }

    private static void pokeTakesEachMask() {
        Check.sentence("18: a mask (1 .. 255)");
        Counted x = new Counted();
        x.slot(0, 100, 2, 0x4200L, 0, 0);
        for (int k = 1; k <= 255; k++) {
            int mask = k;
            Check.passes("mask " + mask, () -> x.poke(0, 1, mask));
            if (k % 2 == 0 || k == 1 || k == 255) {
                int all = allMasksTo(mask);
                Check.answers("the byte", Check.sumOf(0x42, all), () -> x.sum(0));
            }
        }
    }

    private static int allMasksTo(int last) {
        int all = 0;
        for (int mask = 1; mask <= last; mask++) {
            all ^= mask;
        }
        return all;
    }

    private static void pokeOfUnknown() {
        Check.sentence("18: Unknown: there is none such");
        Counted x = new Counted();
        x.slot(0, 0, 1, 1, 0, 0);
        x.slot(0, 0, 1, 1, 0, 0);
        Check.passes("the first", () -> x.poke(0, 0, 1));
        Check.passes("the last", () -> x.poke(1, 0, 1));
        for (int bad : new int[] {-1, 2, 200, MIN, MAX}) {
            Check.refuses("slot " + bad, Check.UNKNOWN, () -> x.poke(bad, 0, 1));
        }
        Check.answers("no third", 2, () -> x.count(0));
    }

    private static void pokeOfNoSuchByte() {
        Check.sentence("18: range: i");
        for (int n = 1; n <= 8; n++) {
            Counted x = new Counted();
            x.slot(0, 0, n, -1L, 0, 0);
            int length = n;
            Check.refuses("byte -1 of " + n, Check.RANGE, () -> x.poke(0, -1, 1));
            Check.refuses("byte " + n + " of " + n, Check.RANGE, () -> x.poke(0, length, 1));
            Check.refuses("byte 8 of " + n, Check.RANGE, () -> x.poke(0, 8, 1));
            Check.refuses("the lowest int", Check.RANGE, () -> x.poke(0, MIN, 1));
            Check.refuses("the highest int", Check.RANGE, () -> x.poke(0, MAX, 1));
            Check.answers("nothing altered", -1, x::verify);
            Check.passes("the last byte", () -> x.poke(0, length - 1, 1));
            Check.answers("altered", 0, x::verify);
        }
    }

    private static void pokeOfNoSuchMask() {
        Check.sentence("18: range: .. the mask");
        Counted x = new Counted();
        x.slot(0, 0, 2, 0x0102L, 0, 0);
        for (int bad : new int[] {0, -1, 256, 257, 511, 0x100, 0xFF00, -256, MIN, MAX}) {
            Check.refuses("mask " + bad, Check.RANGE, () -> x.poke(0, 1, bad));
        }
        Check.answers("nothing altered", Check.sumOf(1, 2), () -> x.sum(0));
        Check.passes("1", () -> x.poke(0, 1, 1));
        Check.answers("the lowest", Check.sumOf(1, 3), () -> x.sum(0));
        Check.passes("255", () -> x.poke(0, 1, 255));
        Check.answers("the highest", Check.sumOf(1, 252), () -> x.sum(0));
    }

    private static void pokeOfDropped() {
        Check.sentence("18: state: it is dropped");
        Counted x = new Counted();
        x.slot(0, 0, 2, 0x0102L, 0, 0);
        x.slot(0, 0, 2, 0x0102L, 0, 0);
        x.drop(0);
        Check.refuses("dropped", Check.STATE, () -> x.poke(0, 0, 1));
        Check.answers("its certificate stays", Check.sumOf(1, 2), () -> x.certificate(0, 2));
        x.hold(0, true);
        Check.passes("a hold does not refuse it", () -> x.poke(1, 0, 1));
        Check.answers("the other one is altered", 1, x::verify);
    }

    private static void verifyIsTheLowestBad() {
        Check.sentence("19: The lowest bad slot");
        Counted x = new Counted();
        for (int k = 0; k < 4; k++) {
            x.slot(9 - k, 400 - 100 * k, 2, 0L, 0, 0);
        }
        x.poke(3, 0, 1);
        Check.answers("the last", 3, x::verify);
        x.poke(1, 1, 1);
        Check.answers("the lowest number, not the first of the line", 1, x::verify);
        x.poke(2, 1, 1);
        Check.answers("a higher one changes nothing", 1, x::verify);
        x.poke(0, 1, 1);
        Check.answers("the first", 0, x::verify);
        x.poke(0, 1, 1);
        Check.answers("it is good again", 1, x::verify);
    }

    private static void verifyWithoutOne() {
        Check.sentence("19: -1 without one");
        Counted x = new Counted();
        Check.answers("without a slot", -1, x::verify);
        x.slot(0, 0, 2, 0x0102L, 0, 0);
        Check.answers("with a good one", -1, x::verify);
        x.poke(0, 0, 6);
        x.poke(0, 0, 2);
        Check.answers("not wholly back", 0, x::verify);
        x.poke(0, 0, 4);
        Check.answers("wholly back", -1, x::verify);
    }

    private static void verifyIsOfThoseThere() {
        Check.sentence("19: .. that is there");
        Counted x = new Counted();
        x.slot(0, 0, 1, 1, 0, 0);
        x.slot(0, 0, 1, 1, 0, 0);
        x.poke(0, 0, 1);
        x.poke(1, 0, 1);
        Check.answers("both", 0, x::verify);
        x.drop(0);
        Check.answers("the other", 1, x::verify);
        x.drop(1);
        Check.answers("none", -1, x::verify);
    }

    private static void verifyOfTheLastSlot() {
        Check.sentence("19: The lowest bad slot: the last one of 200");
        Counted x = new Counted();
        for (int k = 0; k < 200; k++) {
            x.slot(0, 0, 1, k, 0, 0);
        }
        Check.answers("none", -1, x::verify);
        x.poke(199, 0, 128);
        Check.answers("the last", 199, x::verify);
        x.poke(198, 0, 128);
        Check.answers("the one before it", 198, x::verify);
    }

    private static void countsAre(Counted x, int... due) {
        for (int what = 0; what < due.length; what++) {
            int w = what;
            Check.answers("count " + w, due[w], () -> x.count(w));
        }
    }

    private static void countTellsFiveThings() {
        Check.sentence("20: How many 0 slots, 1 of them there, 2 marks, 3 certificates, 4 rows of listeners ever");
        Counted x = new Counted();
        countsAre(x, 0, 0, 0, 0, 0);
        x.slot(0, 0, 1, 1, 0, 0);
        countsAre(x, 1, 1, 0, 0, 0);
        x.mark(0, 0, 0);
        countsAre(x, 1, 1, 1, 0, 0);
        x.drop(0);
        countsAre(x, 1, 0, 1, 1, 0);
        Check.refuses("a try", Check.STATE, () -> x.listen(0, 0));
        countsAre(x, 1, 0, 1, 1, 1);
        x.slot(0, 0, 1, 1, 0, 0);
        x.right(0, 0, true);
        x.hold(0, true);
        x.listen(0, 1);
        countsAre(x, 2, 1, 1, 1, 2);
    }

    private static void countOfRowsGoesOn() {
        Check.sentence("20: 4 rows of listeners ever: those that are no longer kept too");
        for (int ever : new int[] {199, 200, 201, 400, 401, 480}) {
            Counted x = withRows(ever);
            Check.answers("of " + ever, ever, () -> x.count(4));
        }
    }

    private static void countOfFull() {
        Check.sentence("20: How many: as many as can be");
        Counted x = new Counted();
        for (int k = 0; k < 200; k++) {
            x.slot(0, 0, 1, 1, 0, 0);
        }
        for (int k = 0; k < 60; k++) {
            x.mark(0, 0, 0);
        }
        countsAre(x, 200, 200, 60, 0, 0);
        Check.refuses("a slot more", Check.NO_ROOM, () -> x.slot(0, 0, 1, 1, 0, 0));
        Check.refuses("a mark more", Check.NO_ROOM, () -> x.mark(0, 0, 0));
        countsAre(x, 200, 200, 60, 0, 0);
        for (int k = 0; k < 200; k++) {
            x.drop(k);
        }
        countsAre(x, 200, 0, 60, 200, 0);
    }

    private static void countOfNoSuchWhat() {
        Check.sentence("20: Unknown: no such what");
        Counted x = new Counted();
        Check.answers("the first", 0, () -> x.count(0));
        Check.answers("the last", 0, () -> x.count(4));
        for (int bad : new int[] {-1, 5, MIN, MAX}) {
            Check.refuses("what " + bad, Check.UNKNOWN, () -> x.count(bad));
        }
    }
}
