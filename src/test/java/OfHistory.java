/** Promises 23 to 25: undo, save, restore. */
final class OfHistory extends Tests {

    /** Each method that is a change, on busy drives whose slot 1 was saved a while ago and whose pad has a good text. */
    private static final Call[] CHANGES = {x -> x.set(PRICE, 777), x -> x.set(ROOM, 60), x -> x.stream(2, 9, 19), x -> x.write(3, 50),
        x -> x.sell(0, 3), x -> x.sell(3, 99), x -> x.giveBack(1, 3), x -> x.pass(1), x -> x.pass(600), x -> x.carryOut(),
        x -> x.restore(1)};

    private static SilentDrives ready() {
        SilentDrives x = busy();
        x.save(1);
        x.pass(7);
        x.put('t');
        x.put('9');
        return x;
    }

    // ---- 23: undo

    @Sentence(in = "Promise 23: undo", says = "Undoes the latest change: everything except the pad, the slots and the history is as it"
            + " was before it.")
    void everythingIsAsBefore() {
        for (int i = 0; i < CHANGES.length; i++) {
            SilentDrives x = ready();
            String state = Looks.state(x);
            due("change " + i + " is no error", CHANGES[i].on(x) >= 0 ? 1 : 0, 1);
            due("change " + i + " changes something", Looks.state(x).equals(state) ? 1 : 0, 0);
            x.undo();
            same("the state behind undo() of change " + i, Looks.state(x), state);
            SilentDrives y = ready();
            CHANGES[i].on(y);
            y.undo();
            same("the hours behind undo() of change " + i, Looks.hours(y), Looks.hours(ready()));
            SilentDrives z = ready();
            CHANGES[i].on(z);
            z.undo();
            same("what would be behind undo() of change " + i, Looks.prospects(z), Looks.prospects(ready()));
        }
    }

    /** The next two minutes bring two overruns without a credit; the hour that the twin keeps then brings two credits. */
    private static SilentDrives aheadOfFines() {
        SilentDrives x = new SilentDrives();
        x.set(ROOM, 0);
        x.sell(0, 1);
        x.sell(1, 1);
        x.sell(0, 2);
        x.sell(1, 2);
        x.pass(60);
        x.write(0, 65);
        return x;
    }

    private void money(String when, SilentDrives x, int earned, int fined, int credits, int used) {
        due("earned " + when, x.count(2), earned);
        due("fined " + when, x.count(3), fined);
        due("credits " + when, x.count(4), credits);
        due("credits used up " + when, x.count(5), used);
    }

    @Sentence(in = "Promise 23: undo", says = "Undoes the latest change: everything except the pad, the slots and the history is as it"
            + " was before it.")
    void moneyIsAsBefore() {
        SilentDrives x = aheadOfFines();
        x.pass(2);
        money("behind two fines", x, 120, 10, 0, 0);
        x.pass(59);
        money("in the hour 2, with the credits for the twin", x, 240, 10, 2, 0);
        x.write(0, 61);
        x.pass(1);
        money("behind an overrun for a credit", x, 240, 10, 1, 1);
        x.undo();
        money("behind undo() of it", x, 240, 10, 2, 0);
        x.undo();
        x.undo();
        money("behind undo() of the hour 2", x, 120, 10, 0, 0);
        x.undo();
        money("behind undo() of the fines", x, 0, 0, 0, 0);
    }

    @Sentence(in = "Promise 23: undo", says = "Undoes the latest change: everything except the pad, the slots and the history is as it"
            + " was before it.")
    void padAndSlotsStay() {
        SilentDrives x = new SilentDrives();
        Looks.put(x, "t1");
        x.pass(5);
        Looks.put(x, ";t2");
        x.save(0);
        x.undo();
        due("the length of the pad", x.count(13), 5);
        due("the slot", x.restore(0), 5);
        due("carryOut() of the pad, which stayed", x.carryOut(), 2);
        due("the minute of now", x.count(0), 8);
        x.undo();
        due("the pad, emptied by what is undone, stays empty", x.count(13), 0);
        due("the minute of now", x.count(0), 5);
        SilentDrives full = full();
        full.undo();
        due("the length of the full pad", full.count(13), 80);
        due("fault() of it", full.fault(), NONE);
    }

    @Sentence(in = "Promise 23: undo", says = "A history of at most 6 states is kept:")
    void sixStates() {
        for (int changes = 1; changes <= 13; changes++) {
            SilentDrives x = new SilentDrives();
            for (int i = 0; i < changes; i++) {
                x.pass(1);
            }
            int kept = Math.min(changes, 6);
            due("changes behind " + changes, x.count(14), kept);
            for (int left = kept - 1; left >= 0; left--) {
                due("undo() behind " + changes, x.undo(), left);
                due("the minute of now", x.count(0), changes - kept + left);
            }
            due("undo() of more", x.undo(), NOT_POSSIBLE);
            due("the minute of now", x.count(0), changes - kept);
        }
    }

    @Sentence(in = "Promise 23: undo", says = "each method that is a change, and returns no error, records the state before it")
    void whatRecordsAndWhatDoesNot() {
        for (int i = 0; i < CHANGES.length; i++) {
            SilentDrives x = ready();
            for (int left = x.undo(); left > 0; left--) {
                x.undo();
            }
            CHANGES[i].on(x);
            due("changes behind change " + i, x.count(14), 1);
        }
        SilentDrives y = new SilentDrives();
        y.pass(1);
        y.set(7, 0);
        y.stream(0, 0, 1);
        y.write(0, 0);
        y.sell(0, 0);
        y.giveBack(0, 1);
        y.pass(0);
        y.carryOut();
        y.restore(0);
        y.restore(2);
        due("changes behind errors", y.count(14), 1);
        y.put('t');
        y.fault();
        y.wipe();
        y.save(0);
        y.ofDrive(0, 0);
        y.hour(0, 0);
        y.loudIn(0, 1);
        y.freeIn(0, 1);
        y.mostHeld(0, 1);
        y.firstSafe(0);
        y.leastRoom(1);
        due("changes behind what is none", y.count(14), 1);
        due("undo()", y.undo(), 0);
        due("changes behind undo(), which is none itself", y.count(14), 0);
    }

    @Sentence(in = "Promise 23: undo", says = "(also if nothing is different then)")
    void changesThatMakeNoDifference() {
        SilentDrives x = new SilentDrives();
        x.pass(1);
        due("set(PRICE, 60), as it was", x.set(PRICE, 60), 60);
        due("changes", x.count(14), 2);
        due("stream(0, 1, 0), as it was", x.stream(0, 1, 0), 0);
        due("changes", x.count(14), 3);
        x.save(0);
        due("restore(0) of the same", x.restore(0), 1);
        due("changes", x.count(14), 4);
        Looks.put(x, "t0");
        due("carryOut() of which none is carried out", x.carryOut(), 0);
        due("changes", x.count(14), 5);
        for (int left = 4; left > 0; left--) {
            due("undo()", x.undo(), left);
            due("the minute of now", x.count(0), 1);
        }
        due("undo()", x.undo(), 0);
        due("the minute of now", x.count(0), 0);
    }

    @Sentence(in = "Promise 23: undo", says = "when one more is recorded, the oldest one is dropped.")
    void theOldestIsDropped() {
        SilentDrives x = new SilentDrives();
        for (int i = 1; i <= 7; i++) {
            x.write(0, i);
        }
        // 1, 3, 6, 10, 15, 21 and 28 were held; the state with none is dropped.
        int[] held = {21, 15, 10, 6, 3, 1};
        for (int i = 0; i < 6; i++) {
            due("undo()", x.undo(), 5 - i);
            due("held", x.ofDrive(0, 3), held[i]);
        }
        due("undo() of the dropped one", x.undo(), NOT_POSSIBLE);
        due("held", x.ofDrive(0, 3), 1);
    }

    @Sentence(in = "Promise 23: undo", says = "when one more is recorded, the oldest one is dropped.")
    void errorsDropNothing() {
        SilentDrives x = new SilentDrives();
        for (int i = 0; i < 8; i++) {
            x.pass(1);
        }
        x.set(7, 0);
        x.stream(4, 1, 1);
        x.write(0, 0);
        x.sell(0, 0);
        x.giveBack(0, 1);
        x.pass(0);
        x.restore(0);
        x.carryOut();
        for (int left = 5; left >= 0; left--) {
            due("undo()", x.undo(), left);
            due("the minute of now", x.count(0), 2 + left);
        }
        due("undo()", x.undo(), NOT_POSSIBLE);
    }

    @Sentence(in = "Promise 23: undo", says = "An order of a text records nothing by itself.")
    void ordersRecordNothing() {
        SilentDrives x = withText("t1;".repeat(26) + "t1");
        x.carryOut();
        due("changes behind 27 orders", x.count(14), 1);
        due("undo() of all of them", x.undo(), 0);
        due("the minute of now", x.count(0), 0);
        SilentDrives y = new SilentDrives();
        for (int i = 0; i < 6; i++) {
            y.pass(1);
        }
        Looks.put(y, "w0*1;s0@1;g0@1;v0/2*3;t1;t0");
        due("carryOut() on a full history", y.carryOut(), 5);
        due("changes", y.count(14), 6);
        for (int left = 5; left >= 0; left--) {
            due("undo()", y.undo(), left);
            due("the minute of now", y.count(0), 1 + left);
            due("held", y.ofDrive(0, 3), 0);
        }
    }

    @Sentence(in = "Promise 23: undo", says = "Returns how many changes can be undone then;")
    void undoReturnsHowManyAreLeft() {
        SilentDrives x = new SilentDrives();
        x.pass(1);
        due("undo() of the only change", x.undo(), 0);
        x.pass(1);
        x.pass(2);
        due("undo() of the second of two", x.undo(), 1);
        due("the minute of now", x.count(0), 1);
        x.pass(5);
        due("changes, one being undone and another one made", x.count(14), 2);
        due("undo()", x.undo(), 1);
        due("the minute of now", x.count(0), 1);
        due("undo()", x.undo(), 0);
        due("the minute of now", x.count(0), 0);
        for (int i = 0; i < 9; i++) {
            x.pass(1);
        }
        due("undo() of a full history", x.undo(), 5);
        x.pass(60);
        due("changes", x.count(14), 6);
        due("undo()", x.undo(), 5);
        due("the minute of now", x.count(0), 8);
    }

    @Sentence(in = "Promise 23: undo", says = "NOT_POSSIBLE if there is none.")
    void undoOfNone() {
        changesNothing("undo() of a new object", SilentDrives::new, x -> x.undo(), NOT_POSSIBLE);
        changesNothing("undo() behind the last one", () -> {
            SilentDrives x = busy();
            for (int left = x.undo(); left > 0; left--) {
                x.undo();
            }
            return x;
        }, x -> x.undo(), NOT_POSSIBLE);
    }

    // ---- 24: save

    private static final String SAVES = "Saves everything except the pad, the history and the slots in a slot, and overwrites what was"
            + " saved there.";

    @Sentence(in = "Promise 24: save", says = SAVES)
    void everythingIsSaved() {
        for (int i = 0; i < CHANGES.length; i++) {
            SilentDrives x = ready();
            String state = Looks.state(x);
            x.save(0);
            same("the state behind save()", Looks.state(x), state);
            CHANGES[i].on(x);
            x.restore(0);
            same("the state that was saved ahead of change " + i, Looks.state(x), state);
            SilentDrives y = ready();
            y.save(0);
            CHANGES[i].on(y);
            y.restore(0);
            same("the hours that were saved ahead of change " + i, Looks.hours(y), Looks.hours(ready()));
        }
    }

    @Sentence(in = "Promise 24: save", says = SAVES)
    void moneyIsSaved() {
        SilentDrives x = aheadOfFines();
        x.save(0);
        x.pass(61);
        x.save(1);
        money("with two fines and two credits", x, 240, 10, 2, 0);
        x.restore(0);
        money("as it was saved ahead of the fines", x, 0, 0, 0, 0);
        x.restore(1);
        money("as it was saved behind them", x, 240, 10, 2, 0);
    }

    @Sentence(in = "Promise 24: save", says = SAVES)
    void padHistoryAndSlotsAreNotSaved() {
        SilentDrives x = new SilentDrives();
        x.pass(1);
        x.save(1);
        x.pass(1);
        Looks.put(x, "t1");
        due("changes", x.count(14), 2);
        x.save(0);
        due("changes behind save(), which is none", x.count(14), 2);
        due("the length of the pad behind save()", x.count(13), 2);
        x.pass(1);
        x.wipe();
        x.save(1);
        x.restore(0);
        due("the length of the pad, which was not saved", x.count(13), 0);
        due("changes, which were not saved", x.count(14), 4);
        due("the other slot, which was not saved", x.restore(1), 3);
    }

    @Sentence(in = "Promise 24: save", says = SAVES)
    void saveOverwrites() {
        SilentDrives x = new SilentDrives();
        x.pass(1);
        x.save(0);
        x.save(1);
        x.pass(1);
        due("save(0) again", x.save(0), 2);
        x.pass(1);
        due("restore(0)", x.restore(0), 2);
        due("restore(1), which was not overwritten", x.restore(1), 1);
        x.undo();
        x.undo();
        due("the minute of now", x.count(0), 3);
        due("restore(0), undo() having changed no slot", x.restore(0), 2);
    }

    @Sentence(in = "Promise 24: save", says = "`slot`: 0 or 1")
    void saveInTwoSlots() {
        SilentDrives x = new SilentDrives();
        x.pass(5);
        due("save(0)", x.save(0), 5);
        due("restore(1), in which nothing was saved", x.restore(1), NOT_POSSIBLE);
        x.pass(5);
        due("save(1)", x.save(1), 10);
        due("restore(0)", x.restore(0), 5);
        due("restore(1)", x.restore(1), 10);
        changesNothing("save(-1)", Tests::busy, y -> y.save(-1), BAD_VALUE);
        changesNothing("save(2)", Tests::busy, y -> y.save(2), BAD_VALUE);
    }

    @Sentence(in = "Promise 24: save", says = "Returns the minute of now;")
    void saveReturnsTheMinuteOfNow() {
        due("save(1) of a new object", new SilentDrives().save(1), 0);
        due("save(0) in the minute 1", atMinute(1).save(0), 1);
        due("save(0) in the minute 6000", atMinute(6000).save(0), 6000);
    }

    @Sentence(in = "Promise 24: save", says = "BAD_VALUE if there is no such slot.")
    void saveInNoSlot() {
        for (int slot : NO_SLOTS) {
            changesNothing("save(" + slot + ")", Tests::busy, x -> x.save(slot), BAD_VALUE);
        }
    }

    // ---- 25: restore

    @Sentence(in = "Promise 25: restore", says = "Restores what was saved last in a slot, which keeps it.")
    void theSlotKeepsIt() {
        SilentDrives x = new SilentDrives();
        x.write(0, 70);
        x.save(0);
        String saved = Looks.state(x);
        for (int i = 0; i < 3; i++) {
            x.pass(30);
            x.set(PRICE, i);
            due("restore(0)", x.restore(0), 0);
            same("the state", Looks.state(x), saved);
        }
        // A slot is a state of its own, whatever becomes of the one that it was saved from or restored to.
        SilentDrives y = busy();
        y.save(1);
        y.pass(600);
        y.restore(1);
        y.pass(600);
        y.undo();
        y.restore(1);
        same("the state", Looks.state(y), Looks.state(busy()));
    }

    @Sentence(in = "Promise 25: restore", says = "Restores what was saved last in a slot, which keeps it.")
    void whatWasSavedLast() {
        SilentDrives x = new SilentDrives();
        for (int i = 0; i < 4; i++) {
            x.pass(10);
            x.save(i % 2);
        }
        due("restore(0)", x.restore(0), 30);
        due("restore(1)", x.restore(1), 40);
        x.save(0);
        due("restore(0), saved from what was restored", x.restore(0), 40);
    }

    @Sentence(in = "Promise 25: restore", says = "This is a change.")
    void restoreIsAChange() {
        isAChange("restore(0), with a full history", Tests::busy, x -> x.restore(0));
        isAChange("restore(1) that answers 0", () -> {
            SilentDrives x = new SilentDrives();
            x.save(1);
            x.pass(9);
            return x;
        }, x -> x.restore(1));
        isAChange("restore(1) of the same", () -> {
            SilentDrives x = new SilentDrives();
            x.save(1);
            return x;
        }, x -> x.restore(1));
        SilentDrives x = new SilentDrives();
        Looks.put(x, "t1");
        x.save(0);
        x.pass(5);
        x.restore(0);
        due("the length of the pad behind restore()", x.count(13), 2);
        due("undo() of restore()", x.undo(), 1);
        due("the minute of now", x.count(0), 5);
        due("undo() of what was ahead of it", x.undo(), 0);
        due("the minute of now", x.count(0), 0);
    }

    @Sentence(in = "Promise 25: restore", says = "`slot`: 0 or 1")
    void restoreOfTwoSlots() {
        for (int slot = 0; slot < 2; slot++) {
            SilentDrives x = atMinute(8);
            x.save(slot);
            x.pass(1);
            due("restore(" + slot + ")", x.restore(slot), 8);
            due("restore(" + (1 - slot) + ")", x.restore(1 - slot), NOT_POSSIBLE);
        }
        changesNothing("restore(-1)", Tests::busy, x -> x.restore(-1), BAD_VALUE);
        changesNothing("restore(2)", Tests::busy, x -> x.restore(2), BAD_VALUE);
    }

    @Sentence(in = "Promise 25: restore", says = "Returns the minute of now then;")
    void restoreReturnsTheMinuteOfNow() {
        for (int minute : new int[] {0, 1, 6000}) {
            SilentDrives x = atMinute(minute);
            x.save(0);
            x.pass(7);
            due("restore(0) of the minute " + minute, x.restore(0), minute);
            due("the minute of now", x.count(0), minute);
        }
    }

    @Sentence(in = "Promise 25: restore", says = "BAD_VALUE if there is no such slot;")
    void restoreOfNoSlot() {
        for (int slot : NO_SLOTS) {
            changesNothing("restore(" + slot + ")", Tests::busy, x -> x.restore(slot), BAD_VALUE);
        }
    }

    @Sentence(in = "Promise 25: restore", says = "NOT_POSSIBLE if nothing was saved in it.")
    void restoreOfNothing() {
        changesNothing("restore(0) of a new object", SilentDrives::new, x -> x.restore(0), NOT_POSSIBLE);
        changesNothing("restore(1) of a new object", SilentDrives::new, x -> x.restore(1), NOT_POSSIBLE);
        changesNothing("restore(1), the slot 0 being used", Tests::busy, x -> x.restore(1), NOT_POSSIBLE);
        SilentDrives x = new SilentDrives();
        x.save(2);
        x.save(-1);
        due("restore(0) behind save() in no slot", x.restore(0), NOT_POSSIBLE);
        due("restore(1) behind save() in no slot", x.restore(1), NOT_POSSIBLE);
    }
}
