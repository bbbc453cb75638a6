/** What the tests of single sentences share. Each of them is a method under a Sentence, run on a new object of its class. */
abstract class Tests {
    static final int NO_SUCH = -1, BAD_VALUE = -2, BAD_TEXT = -3, TOO_MANY = -4, NOT_POSSIBLE = -5, NONE = -6;
    static final int PRICE = 0, FINE = 1, BONUS = 2, LOW = 3, HIGH = 4, SPEED = 5, ROOM = 6;

    /** The next ones below and above the drives, and the farthest ones. */
    static final int[] NO_DRIVES = {-1, 4, Integer.MIN_VALUE, Integer.MAX_VALUE};
    static final int[] NO_HOURS = {-1, 100, Integer.MIN_VALUE, Integer.MAX_VALUE};
    static final int[] NO_MINUTES = {0, 601, -1, Integer.MIN_VALUE, Integer.MAX_VALUE};
    static final int[] NO_SLOTS = {-1, 2, Integer.MIN_VALUE, Integer.MAX_VALUE};

    private Check check;

    interface Maker {
        SilentDrives make();
    }

    interface Call {
        long on(SilentDrives x);
    }

    interface DriveCall {
        long on(SilentDrives x, int drive);
    }

    final void begin(Check with) {
        check = with;
    }

    final void due(String call, long got, long want) {
        check.due(call, got, want);
    }

    final void same(String what, String got, String want) {
        check.same(what, got, want);
    }

    /** Of two objects that were made alike, one does the call: the two have to be alike behind it in all that can be seen. */
    final void changesNothing(String call, Maker maker, Call does, long want) {
        due(call, does.on(maker.make()), want);
        for (Looks.Look look : Looks.ALL) {
            SilentDrives x = maker.make();
            does.on(x);
            same("behind " + call + ", what there is", look.at(x), look.at(maker.make()));
        }
    }

    final void noSuchDrive(String call, DriveCall does) {
        for (int drive : NO_DRIVES) {
            changesNothing(call + " of the drive " + drive, Tests::busy, x -> does.on(x, drive), NO_SUCH);
        }
    }

    /** Does a change once more than the history has room for, and undoes it. */
    final void isAChange(String call, Maker maker, Call does) {
        SilentDrives x = maker.make();
        int before = x.count(14);
        String state = Looks.state(x);
        due(call + " is no error", does.on(x) >= 0 ? 1 : 0, 1);
        due("changes behind " + call, x.count(14), Math.min(before + 1, 6));
        due("undo() of " + call, x.undo(), Math.min(before + 1, 6) - 1);
        same("the state behind undo() of " + call, Looks.state(x), state);
    }

    /** Free, stale and lent cells, and units held. */
    final void cells(String when, SilentDrives x, int drive, int free, int stale, int lent, int held) {
        String got = x.ofDrive(drive, 0) + " " + x.ofDrive(drive, 1) + " " + x.ofDrive(drive, 2) + " " + x.ofDrive(drive, 3);
        same("free, stale, lent and held of the drive " + drive + " " + when, got, free + " " + stale + " " + lent + " " + held);
    }

    static int twin(int drive) {
        return new int[] {1, 0, 3, 2}[drive];
    }

    /** Lets time pass until the minute is that of now. */
    static void passTo(SilentDrives x, int minute) {
        for (int left = minute - x.count(0); left > 0; left -= 600) {
            x.pass(Math.min(left, 600));
        }
    }

    static SilentDrives atMinute(int minute) {
        SilentDrives x = new SilentDrives();
        passTo(x, minute);
        return x;
    }

    static SilentDrives withText(String text) {
        SilentDrives x = new SilentDrives();
        Looks.put(x, text);
        return x;
    }

    /** Both twins, 0 and 1, are quiet in the hour 1, and so many units come to the drive 0 in its first minute, which passed. */
    static SilentDrives quietTwins(int room, int units) {
        SilentDrives x = new SilentDrives();
        x.set(ROOM, room);
        x.sell(0, 1);
        x.sell(1, 1);
        x.pass(60);
        x.write(0, units);
        x.pass(1);
        return x;
    }

    /** In the hour 1 the drive 0 is quiet, has 60 stale cells, holds 20 units, and its twin keeps 25 more; minute 61. */
    static SilentDrives lentByTwin() {
        SilentDrives x = new SilentDrives();
        x.sell(0, 1);
        x.pass(60);
        x.write(0, 105);
        x.pass(1);
        return x;
    }

    /**
     * Nothing is as in a new object: kept, spoiled and sold hours, cells of each kind, units held, streams, settings,
     * money, a full history, the slot 0 (the slot 1 is not used), a text that has to go on. The hour of now is 2.
     */
    static SilentDrives busy() {
        SilentDrives x = new SilentDrives();
        for (int drive = 0; drive < 4; drive++) {
            x.sell(drive, 1);
            x.stream(drive, 8 * drive + 5, drive + 1);
        }
        x.sell(0, 2);
        x.sell(1, 3);
        x.set(BONUS, 9);
        x.pass(90);
        // Overruns in the hour 1 are fined; those in the hour 2 use some of the credits for the kept hours up.
        x.write(0, 150);
        x.pass(32);
        x.save(0);
        x.write(1, 50);
        x.write(0, 90);
        x.pass(23);
        x.write(2, 60);
        x.pass(5);
        for (int setting = 0; setting < 7; setting++) {
            x.set(setting, setting + 2);
        }
        x.write(3, 70);
        Looks.put(x, "t1;w1*5;");
        return x;
    }

    /** The drive 2 holds 9999 units, and the pad has 80 characters, a good text. */
    static SilentDrives full() {
        SilentDrives x = withText("t1;".repeat(26) + "t1");
        for (int i = 0; i < 49; i++) {
            x.write(2, 200);
        }
        x.write(2, 199);
        return x;
    }
}
