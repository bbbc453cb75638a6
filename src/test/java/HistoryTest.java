/** Promises 23 to 25: undo, save, restore. */
public final class HistoryTest {
    private static final Check CHECK = new Check("HistoryTest");

    public static void main(String[] args) {
        busyIsBusy();
        undoEachChange();
        undoBringsFinesBack();
        undoKeepsSix();
        undoOfNothingDifferent();
        undoKeepsPadAndSlots();
        undoErrors();
        save();
        saveErrors();
        restore();
        restoreErrors();
        CHECK.end();
    }

    /** Drives at minute 150 of which everything is different from a new object. */
    private static SilentDrives busy() {
        SilentDrives x = new SilentDrives();
        for (int drive = 0; drive < 4; drive++) {
            x.sell(drive, 1);
            x.stream(drive, 8 * drive + 5, drive + 1);
        }
        x.sell(0, 2);
        x.sell(1, 3);
        x.set(SilentDrives.BONUS, 9);
        x.pass(90);
        // Overruns in the hour 1 are fined; those in the hour 2 use some of the credits for the kept hours up.
        x.write(0, 150);
        x.pass(32);
        x.write(1, 50);
        x.write(0, 90);
        x.pass(23);
        x.write(2, 60);
        x.pass(5);
        for (int setting = 0; setting < 7; setting++) {
            x.set(setting, setting + 2);
        }
        return x;
    }

    /** What is as in a new object would not show whether it is brought back. */
    private static void busyIsBusy() {
        SilentDrives x = busy();
        SilentDrives fresh = new SilentDrives();
        for (int what = 0; what < 14; what++) {
            int different = 0;
            for (int drive = 0; drive < 4; drive++) {
                different += x.ofDrive(drive, what) != fresh.ofDrive(drive, what) ? 1 : 0;
            }
            CHECK.due("ofDrive(.., " + what + ") is different", different > 0 ? 1 : 0, 1);
        }
        for (int what = 0; what < 13; what++) {
            CHECK.due("count(" + what + ") is different", x.count(what) != fresh.count(what) ? 1 : 0, 1);
        }
        CHECK.due("a kept hour", x.hour(2, 1), 2);
        CHECK.due("a spoiled hour", x.hour(0, 1), 3);
        CHECK.due("an hour to come", x.hour(1, 3), 1);
    }

    private static final int CHANGES = 9;

    private static int change(SilentDrives x, int which) {
        switch (which) {
            case 0: return x.set(SilentDrives.PRICE, 777);
            case 1: return x.stream(2, 9, 19);
            case 2: return x.write(3, 50);
            case 3: return x.sell(0, 3);
            case 4: return x.giveBack(1, 3);
            case 5: return x.pass(1);
            case 6: return x.pass(600);
            case 7:
                Looks.put(x, "w0*9;t9");
                return x.carryOut();
            default: return x.restore(1);
        }
    }

    private static void undoEachChange() {
        for (int which = 0; which < CHANGES; which++) {
            SilentDrives x = new SilentDrives();
            x.write(2, 3);
            x.save(1);
            x = busy();
            x.save(1);
            x.pass(7);
            String before = Looks.atState(x);
            CHECK.due("changes", x.count(14), 6);
            int answer = change(x, which);
            CHECK.due("change " + which + " is no error", answer >= 0 ? 1 : 0, 1);
            CHECK.due("change " + which + " changes", Looks.atState(x).equals(before) ? 1 : 0, 0);
            CHECK.due("changes", x.count(14), 6);
            CHECK.due("undo()", x.undo(), 5);
            CHECK.same("the state without change " + which, Looks.atState(x), before);
            CHECK.due("changes", x.count(14), 5);
        }
    }

    private static void undoBringsFinesBack() {
        SilentDrives x = new SilentDrives();
        x.sell(0, 1);
        x.sell(1, 1);
        x.pass(60);
        x.write(0, 90);
        CHECK.due("pass(2)", x.pass(2), 62);
        CHECK.due("fined", x.count(3), 10);
        CHECK.due("save(1)", x.save(1), 62);
        CHECK.due("undo()", x.undo(), 4);
        CHECK.due("fined behind undo()", x.count(3), 0);
        CHECK.due("restore(1)", x.restore(1), 62);
        CHECK.due("fined behind restore()", x.count(3), 10);
    }

    private static void undoKeepsSix() {
        SilentDrives x = new SilentDrives();
        String[] states = new String[10];
        for (int i = 0; i < 10; i++) {
            states[i] = Looks.atState(x);
            x.write(i % 4, 10 + i);
            CHECK.due("changes", x.count(14), Math.min(i + 1, 6));
        }
        for (int left = 5; left >= 0; left--) {
            CHECK.due("undo()", x.undo(), left);
            CHECK.same("the state", Looks.atState(x), states[4 + left]);
        }
        CHECK.due("undo() beyond six", x.undo(), -5);
        CHECK.same("the state", Looks.atState(x), states[4]);
        // Behind undo() the history goes on from where it is.
        x.pass(1);
        x.pass(2);
        CHECK.due("changes", x.count(14), 2);
        CHECK.due("undo()", x.undo(), 1);
        CHECK.due("the minute of now", x.count(0), 1);
        x.pass(5);
        CHECK.due("undo()", x.undo(), 1);
        CHECK.due("the minute of now", x.count(0), 1);
        CHECK.due("undo()", x.undo(), 0);
        CHECK.same("the state", Looks.atState(x), states[4]);
        // The state that a failed change prepares must not stand where the oldest kept one is.
        for (int i = 0; i < 6; i++) {
            x.pass(1);
        }
        CHECK.due("pass(0)", x.pass(0), -2);
        CHECK.due("write(0, 0)", x.write(0, 0), -2);
        CHECK.due("restore(0)", x.restore(0), -5);
        for (int i = 5; i >= 0; i--) {
            CHECK.due("undo()", x.undo(), i);
            CHECK.due("the minute of now", x.count(0), i);
        }
        CHECK.same("the state", Looks.atState(x), states[4]);
    }

    private static void undoOfNothingDifferent() {
        SilentDrives x = new SilentDrives();
        x.pass(1);
        CHECK.due("set to the same", x.set(SilentDrives.PRICE, 60), 60);
        CHECK.due("changes", x.count(14), 2);
        CHECK.due("undo()", x.undo(), 1);
        CHECK.due("the minute of now", x.count(0), 1);
        CHECK.due("undo()", x.undo(), 0);
        CHECK.due("the minute of now", x.count(0), 0);
        // What asks, writes on the pad or saves is not a change.
        x.put('t');
        x.fault();
        x.wipe();
        x.save(0);
        x.loudIn(0, 1);
        x.freeIn(0, 1);
        x.mostHeld(0, 1);
        x.firstSafe(0);
        x.leastRoom(1);
        CHECK.due("changes", x.count(14), 0);
    }

    private static void undoKeepsPadAndSlots() {
        SilentDrives x = new SilentDrives();
        Looks.put(x, "t1");
        x.pass(5);
        Looks.put(x, ";t2");
        x.save(0);
        CHECK.due("undo()", x.undo(), 0);
        CHECK.due("the length of the pad", x.count(13), 5);
        CHECK.due("the slot", x.restore(0), 5);
        CHECK.due("changes", x.count(14), 1);
        CHECK.due("carryOut()", x.carryOut(), 2);
        CHECK.due("the minute of now", x.count(0), 8);
        CHECK.due("undo()", x.undo(), 1);
        CHECK.due("the pad stays empty", x.count(13), 0);
        CHECK.due("the minute of now", x.count(0), 5);
        CHECK.due("undo() of restore()", x.undo(), 0);
        CHECK.due("the minute of now", x.count(0), 0);
    }

    private static void undoErrors() {
        SilentDrives x = new SilentDrives();
        Looks.put(x, "t1");
        CHECK.error(x, "undo() of nothing", () -> x.undo(), -5);
        x.pass(3);
        x.undo();
        CHECK.error(x, "undo() of nothing", () -> x.undo(), -5);
    }

    private static void save() {
        SilentDrives x = busy();
        String first = Looks.atState(x);
        CHECK.due("save(0)", x.save(0), 150);
        CHECK.same("the state", Looks.atState(x), first);
        CHECK.due("changes", x.count(14), 6);
        x.pass(20);
        String second = Looks.atState(x);
        CHECK.due("save(1)", x.save(1), 170);
        x.pass(20);
        CHECK.due("restore(0)", x.restore(0), 150);
        CHECK.same("the state", Looks.atState(x), first);
        CHECK.due("restore(1)", x.restore(1), 170);
        CHECK.same("the state", Looks.atState(x), second);
        CHECK.due("save(0) overwrites", x.save(0), 170);
        x.write(0, 1);
        CHECK.due("restore(0)", x.restore(0), 170);
        CHECK.same("the state", Looks.atState(x), second);
    }

    private static void saveErrors() {
        SilentDrives x = busy();
        x.save(1);
        for (int slot : new int[] {-1, 2, Integer.MIN_VALUE, Integer.MAX_VALUE}) {
            CHECK.error(x, "save(" + slot + ")", () -> x.save(slot), -2);
        }
        CHECK.due("restore(0)", x.restore(0), -5);
    }

    private static void restore() {
        SilentDrives x = new SilentDrives();
        x.write(0, 5);
        x.save(0);
        String saved = Looks.atState(x);
        for (int i = 0; i < 3; i++) {
            x.pass(30);
            Looks.put(x, "t1");
            String before = Looks.atState(x);
            CHECK.due("restore(0) keeps its slot", x.restore(0), 0);
            CHECK.same("the state", Looks.atState(x), saved);
            CHECK.due("the length of the pad", x.count(13), 2 * (i + 1));
            x.undo();
            CHECK.same("the state behind undo()", Looks.atState(x), before);
            x.undo();
            CHECK.same("the state behind undo()", Looks.atState(x), saved);
        }
        CHECK.due("changes", x.count(14), 1);
        CHECK.due("restore(0) of the same", x.restore(0), 0);
        CHECK.due("changes", x.count(14), 2);
    }

    private static void restoreErrors() {
        SilentDrives x = busy();
        x.save(0);
        x.pass(1);
        for (int slot : new int[] {-1, 2, Integer.MIN_VALUE, Integer.MAX_VALUE}) {
            CHECK.error(x, "restore(" + slot + ")", () -> x.restore(slot), -2);
        }
        CHECK.error(x, "restore(1) of nothing", () -> x.restore(1), -5);
    }
}
