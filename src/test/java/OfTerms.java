/** Terms, with CONVENTIONS; Settings; Drives, time. */
final class OfTerms extends Tests {
    /** The calls that take a drive, all else in their range. */
    private static final String[] NAMES = {"stream", "write", "sell", "giveBack", "ofDrive", "hour", "streak", "share", "mean",
        "loudIn", "freeIn", "mostHeld", "firstSafe"};
    private static final DriveCall[] CALLS = {(x, d) -> x.stream(d, 1, 1), (x, d) -> x.write(d, 1), (x, d) -> x.sell(d, 50),
        (x, d) -> x.giveBack(d, 50), (x, d) -> x.ofDrive(d, 0), (x, d) -> x.hour(d, 0), (x, d) -> x.streak(d),
        (x, d) -> x.share(d), (x, d) -> x.mean(d), (x, d) -> x.loudIn(d, 1), (x, d) -> x.freeIn(d, 1),
        (x, d) -> x.mostHeld(d, 1), (x, d) -> x.firstSafe(d)};

    // ---- CONVENTIONS

    @Sentence(in = "Terms", says = "A method that fails returns one of the error codes NO_SUCH (-1), BAD_VALUE (-2), BAD_TEXT (-3),"
            + " TOO_MANY (-4) and NOT_POSSIBLE (-5)")
    void eachErrorIsItsNumber() {
        SilentDrives x = full();
        due("streak(4)", x.streak(4), -1);
        due("set(7, 0)", x.set(7, 0), -2);
        due("write(2, 1) on 9999", x.write(2, 1), -4);
        due("put on 80 characters", x.put('t'), -4);
        due("sell(0, 0)", x.sell(0, 0), -5);
        due("restore(0) of nothing", x.restore(0), -5);
        x.wipe();
        due("carryOut() of the empty pad", x.carryOut(), -3);
        due("undo() of a new object", new SilentDrives().undo(), -5);
    }

    @Sentence(in = "Terms", says = "it names its errors in the order in which they are checked, and the first one that applies is"
            + " returned.")
    void theFirstErrorThatApplies() {
        SilentDrives x = full();
        due("stream(4, 0, 21)", x.stream(4, 0, 21), NO_SUCH);
        due("write(-1, 0)", x.write(-1, 0), NO_SUCH);
        due("write(4, 201)", x.write(4, 201), NO_SUCH);
        due("write(2, 0) on 9999", x.write(2, 0), BAD_VALUE);
        due("write(2, 201) on 9999", x.write(2, 201), BAD_VALUE);
        due("sell(4, 100)", x.sell(4, 100), NO_SUCH);
        due("sell(4, 0), the hour of now", x.sell(4, 0), NO_SUCH);
        due("sell(0, -1), not later than now", x.sell(0, -1), BAD_VALUE);
        due("giveBack(4, 100)", x.giveBack(4, 100), NO_SUCH);
        due("giveBack(4, 0), the hour of now", x.giveBack(4, 0), NO_SUCH);
        due("giveBack(0, -1), not later than now", x.giveBack(0, -1), BAD_VALUE);
        due("giveBack(0, 100), not sold", x.giveBack(0, 100), BAD_VALUE);
        due("ofDrive(4, 14)", x.ofDrive(4, 14), NO_SUCH);
        due("hour(4, 100)", x.hour(4, 100), NO_SUCH);
        due("loudIn(4, 0)", x.loudIn(4, 0), NO_SUCH);
        due("freeIn(-1, 601)", x.freeIn(-1, 601), NO_SUCH);
        due("mostHeld(4, 0)", x.mostHeld(4, 0), NO_SUCH);
        due("put(32) on 80 characters", x.put(32), BAD_VALUE);
        due("put(0) on 80 characters", x.put(0), BAD_VALUE);
        due("restore(2), in which nothing was saved", x.restore(2), BAD_VALUE);
    }

    @Sentence(in = "Terms", says = "A call that returns an error changes nothing.")
    void aRefusedCallChangesNothing() {
        changesNothing("set(7, 0)", Tests::busy, x -> x.set(7, 0), BAD_VALUE);
        changesNothing("set(ROOM, 61)", Tests::busy, x -> x.set(ROOM, 61), BAD_VALUE);
        for (int i = 0; i < CALLS.length; i++) {
            noSuchDrive(NAMES[i], CALLS[i]);
        }
        changesNothing("stream(0, 0, 1)", Tests::busy, x -> x.stream(0, 0, 1), BAD_VALUE);
        changesNothing("stream(0, 1, 21)", Tests::busy, x -> x.stream(0, 1, 21), BAD_VALUE);
        changesNothing("write(0, 201)", Tests::busy, x -> x.write(0, 201), BAD_VALUE);
        changesNothing("write(2, 1) on 9999", Tests::full, x -> x.write(2, 1), TOO_MANY);
        changesNothing("sell(0, 100)", Tests::busy, x -> x.sell(0, 100), BAD_VALUE);
        changesNothing("sell(3, 2), of now", Tests::busy, x -> x.sell(3, 2), NOT_POSSIBLE);
        changesNothing("sell(1, 3), sold", Tests::busy, x -> x.sell(1, 3), NOT_POSSIBLE);
        changesNothing("giveBack(0, 100)", Tests::busy, x -> x.giveBack(0, 100), BAD_VALUE);
        changesNothing("giveBack(0, 2), of now", Tests::busy, x -> x.giveBack(0, 2), NOT_POSSIBLE);
        changesNothing("giveBack(0, 3), not sold", Tests::busy, x -> x.giveBack(0, 3), NOT_POSSIBLE);
        changesNothing("pass(601)", Tests::busy, x -> x.pass(601), BAD_VALUE);
        changesNothing("ofDrive(0, 14)", Tests::busy, x -> x.ofDrive(0, 14), BAD_VALUE);
        changesNothing("hour(0, 100)", Tests::busy, x -> x.hour(0, 100), BAD_VALUE);
        changesNothing("count(15)", Tests::busy, x -> x.count(15), BAD_VALUE);
        changesNothing("loudIn(0, 601)", Tests::busy, x -> x.loudIn(0, 601), BAD_VALUE);
        changesNothing("freeIn(0, 601)", Tests::busy, x -> x.freeIn(0, 601), BAD_VALUE);
        changesNothing("mostHeld(0, 601)", Tests::busy, x -> x.mostHeld(0, 601), BAD_VALUE);
        changesNothing("leastRoom(11)", Tests::busy, x -> x.leastRoom(11), BAD_VALUE);
        changesNothing("put(32)", Tests::busy, x -> x.put(32), BAD_VALUE);
        changesNothing("put(\"t1\") on 80 characters", Tests::full, x -> x.put(Looks.number("t1")), TOO_MANY);
        changesNothing("carryOut() of a text that has to go on", Tests::busy, x -> x.carryOut(), BAD_TEXT);
        changesNothing("undo() of nothing", () -> withText("t1"), x -> x.undo(), NOT_POSSIBLE);
        changesNothing("save(2)", Tests::busy, x -> x.save(2), BAD_VALUE);
        changesNothing("restore(2)", Tests::busy, x -> x.restore(2), BAD_VALUE);
        changesNothing("restore(1) of nothing", Tests::busy, x -> x.restore(1), NOT_POSSIBLE);
    }

    /** If busy drives were as new ones in something, no test on them would see it changed. */
    @Sentence(in = "Terms", says = "A call that returns an error changes nothing.")
    void inBusyDrivesThereIsMuchToChange() {
        SilentDrives x = busy();
        SilentDrives first = new SilentDrives();
        for (int what = 0; what < 14; what++) {
            int different = 0;
            for (int drive = 0; drive < 4; drive++) {
                different += x.ofDrive(drive, what) != first.ofDrive(drive, what) ? 1 : 0;
            }
            due("ofDrive(.., " + what + ") is different from a new object's", different > 0 ? 1 : 0, 1);
        }
        for (int what = 0; what < 14; what++) {
            due("count(" + what + ") is different", x.count(what) != first.count(what) ? 1 : 0, 1);
        }
        due("changes", x.count(14), 6);
        due("a kept hour", x.hour(2, 1), 2);
        due("a spoiled hour", x.hour(0, 1), 3);
        due("an hour to come", x.hour(1, 3), 1);
        due("the slot 0 is used", x.restore(0), 122);
    }

    @Sentence(in = "Terms", says = "NONE (-6) is not an error; it is returned only if no error applies.")
    void noneOnlyWithoutAnError() {
        SilentDrives x = new SilentDrives();
        x.set(LOW, 0);
        x.write(0, 121);
        x.write(1, 60);
        due("share(0) without an hour that ended", x.share(0), -6);
        due("share(4)", x.share(4), NO_SUCH);
        due("firstSafe(0), 61 units being held and the twin full", x.firstSafe(0), -6);
        due("firstSafe(4)", x.firstSafe(4), NO_SUCH);
        x.sell(0, 1);
        due("leastRoom(2) for 61 units", x.leastRoom(2), -6);
        due("leastRoom(0)", x.leastRoom(0), BAD_VALUE);
        due("leastRoom(11)", x.leastRoom(11), BAD_VALUE);
        due("fault() of a good text", withText("t1").fault(), -6);
    }

    @Sentence(in = "Terms", says = "Everything is numbered from 0.")
    void numberedFrom0() {
        SilentDrives x = new SilentDrives();
        due("set(0, 61)", x.set(0, 61), 60);
        due("PRICE", x.count(6), 61);
        due("stream(0, 9, 2)", x.stream(0, 9, 2), 0);
        due("hour(0, 0)", x.hour(0, 0), 0);
        due("ofDrive(0, 0)", x.ofDrive(0, 0), 60);
        due("count(0)", x.count(0), 0);
        due("save(0)", x.save(0), 0);
        due("restore(0)", x.restore(0), 0);
        x.put('x');
        due("fault(), the first character", x.fault(), 0);
    }

    @Sentence(in = "Texts", says = "The constants: `NO_SUCH = -1, BAD_VALUE = -2, BAD_TEXT = -3, TOO_MANY = -4, NOT_POSSIBLE = -5,"
            + " NONE = -6`: Error codes, and NONE: there is none.")
    void errorCodes() {
        due("NO_SUCH", SilentDrives.NO_SUCH, -1);
        due("BAD_VALUE", SilentDrives.BAD_VALUE, -2);
        due("BAD_TEXT", SilentDrives.BAD_TEXT, -3);
        due("TOO_MANY", SilentDrives.TOO_MANY, -4);
        due("NOT_POSSIBLE", SilentDrives.NOT_POSSIBLE, -5);
        due("NONE", SilentDrives.NONE, -6);
    }

    @Sentence(in = "Texts", says = "`PRICE = 0, FINE = 1, BONUS = 2, LOW = 3, HIGH = 4, SPEED = 5, ROOM = 6`: Settings.")
    void settings() {
        due("PRICE", SilentDrives.PRICE, 0);
        due("FINE", SilentDrives.FINE, 1);
        due("BONUS", SilentDrives.BONUS, 2);
        due("LOW", SilentDrives.LOW, 3);
        due("HIGH", SilentDrives.HIGH, 4);
        due("SPEED", SilentDrives.SPEED, 5);
        due("ROOM", SilentDrives.ROOM, 6);
    }

    // ---- Settings

    @Sentence(in = "Settings", says = "PRICE (0 to 999; 60)")
    void price() {
        setting(PRICE, 0, 999, 60);
    }

    @Sentence(in = "Settings", says = "FINE (0 to 99; 5)")
    void fine() {
        setting(FINE, 0, 99, 5);
    }

    @Sentence(in = "Settings", says = "BONUS (0 to 9; 2)")
    void bonus() {
        setting(BONUS, 0, 9, 2);
    }

    @Sentence(in = "Settings", says = "LOW (0 to 60; 20)")
    void low() {
        setting(LOW, 0, 60, 20);
    }

    @Sentence(in = "Settings", says = "HIGH (0 to 60; 50)")
    void high() {
        setting(HIGH, 0, 60, 50);
    }

    @Sentence(in = "Settings", says = "SPEED (1 to 20; 4)")
    void speed() {
        setting(SPEED, 1, 20, 4);
    }

    @Sentence(in = "Settings", says = "ROOM (0 to 60; 20)")
    void room() {
        setting(ROOM, 0, 60, 20);
    }

    private void setting(int setting, int least, int most, int first) {
        SilentDrives x = new SilentDrives();
        due("the setting " + setting + " of a new object", x.count(6 + setting), first);
        due("set(" + setting + ", " + most + ")", x.set(setting, most), first);
        due("the setting " + setting, x.count(6 + setting), most);
        due("set(" + setting + ", " + least + ")", x.set(setting, least), most);
        due("the setting " + setting, x.count(6 + setting), least);
        for (int value : new int[] {least - 1, most + 1, Integer.MIN_VALUE, Integer.MAX_VALUE}) {
            changesNothing("set(" + setting + ", " + value + ")", Tests::busy, y -> y.set(setting, value), BAD_VALUE);
        }
    }

    // ---- Drives, time

    @Sentence(in = "Drives, time", says = "There are 4 drives, 0 to 3;")
    void drives0To3() {
        for (int i = 0; i < CALLS.length; i++) {
            for (int drive = 0; drive < 4; drive++) {
                SilentDrives x = new SilentDrives();
                x.sell(drive, 49);
                due(NAMES[i] + " of the drive " + drive, CALLS[i].on(x, drive) == NO_SUCH ? 1 : 0, 0);
            }
            for (int drive : NO_DRIVES) {
                due(NAMES[i] + " of the drive " + drive, CALLS[i].on(new SilentDrives(), drive), NO_SUCH);
            }
        }
    }

    @Sentence(in = "Drives, time", says = "the drives 0 and 1 are twins, and so are 2 and 3.")
    void twins() {
        for (int drive = 0; drive < 4; drive++) {
            SilentDrives x = new SilentDrives();
            x.sell(drive, 1);
            x.pass(60);
            x.write(drive, 90);
            x.pass(1);
            cells("that lent 10", x, drive, 0, 60, 0, 20);
            for (int other = 0; other < 4; other++) {
                if (other != drive) {
                    cells("behind units of " + drive, x, other, other == twin(drive) ? 50 : 60, 0, other == twin(drive) ? 10 : 0, 0);
                }
            }
        }
    }

    @Sentence(in = "Drives, time", says = "A drive has 60 cells, each of which is free, stale or lent (all are free at first).")
    void sixtyCells() {
        for (int drive = 0; drive < 4; drive++) {
            cells("of a new object", new SilentDrives(), drive, 60, 0, 0, 0);
            for (int units = 59; units <= 61; units++) {
                SilentDrives x = new SilentDrives();
                x.set(LOW, 0);
                x.write(drive, units);
                x.pass(1);
                cells("behind " + units + " units", x, drive, 60 - Math.min(units, 60), Math.min(units, 60), 0, units == 61 ? 1 : 0);
            }
        }
        SilentDrives x = lentByTwin();
        x.write(1, 7);
        x.pass(1);
        cells("with cells of each kind", x, 1, 28, 7, 25, 0);
    }

    @Sentence(in = "Drives, time", says = "Units that come to a drive are held by it until they are written; to write a unit makes a"
            + " free cell stale.")
    void unitsAreHeldUntilTheyAreWritten() {
        SilentDrives x = new SilentDrives();
        x.set(LOW, 0);
        x.write(0, 1);
        cells("until a minute passes", x, 0, 60, 0, 0, 1);
        x.pass(1);
        cells("behind one unit", x, 0, 59, 1, 0, 0);
        due("written", x.ofDrive(0, 6), 1);
        x.write(0, 60);
        x.pass(600);
        cells("that has no cell for the last one", x, 0, 0, 60, 0, 1);
        due("written", x.ofDrive(0, 6), 60);
    }

    @Sentence(in = "Drives, time", says = "To clean a cell up makes a stale one free.")
    void cleanedCellsAreFree() {
        SilentDrives x = new SilentDrives();
        x.set(LOW, 60);
        x.set(SPEED, 1);
        x.write(0, 2);
        x.pass(1);
        cells("with one of two cleaned up", x, 0, 59, 1, 0, 0);
        x.pass(1);
        cells("with the last one cleaned up", x, 0, 60, 0, 0, 0);
        x.pass(1);
        cells("with none to clean up", x, 0, 60, 0, 0, 0);
    }

    @Sentence(in = "Drives, time", says = "Time is told in minutes; the minute of now is 0 at first.")
    void theFirstMinuteIs0() {
        SilentDrives x = new SilentDrives();
        due("the minute of now", x.count(0), 0);
        due("pass(1)", x.pass(1), 1);
        due("the minute of now", x.count(0), 1);
    }

    @Sentence(in = "Drives, time", says = "The hour h is the minutes from 60 * h to 60 * h + 59.")
    void sixtyMinutesAnHour() {
        SilentDrives x = new SilentDrives();
        for (int hour : new int[] {0, 1, 2, 98, 99, 100, 101}) {
            passTo(x, 60 * hour);
            due("the hour of the minute " + 60 * hour, x.count(1), hour);
            x.pass(59);
            due("the hour of the minute " + (60 * hour + 59), x.count(1), hour);
        }
    }

    @Sentence(in = "Drives, time", says = "The hours 0 to 99 can be sold, each for each drive.")
    void hours0To99() {
        SilentDrives x = new SilentDrives();
        for (int drive = 0; drive < 4; drive++) {
            due("sell(" + drive + ", 0), which is that of now, but an hour", x.sell(drive, 0), NOT_POSSIBLE);
            for (int hour = 1; hour < 100; hour++) {
                due("sell(" + drive + ", " + hour + ")", x.sell(drive, hour), hour);
            }
        }
        for (int drive = 0; drive < 4; drive++) {
            SilentDrives one = new SilentDrives();
            for (int hour = 1; hour < 100; hour++) {
                one.sell(drive, hour);
            }
            String none = " " + "0".repeat(100);
            String all = " 0" + "1".repeat(99);
            same("the hours", Looks.hours(one), "hours:" + none.repeat(drive) + all + none.repeat(3 - drive));
        }
        for (int drive = 0; drive < 4; drive++) {
            for (int hour : NO_HOURS) {
                due("sell(" + drive + ", " + hour + ")", new SilentDrives().sell(drive, hour), BAD_VALUE);
            }
        }
    }

    @Sentence(in = "Drives, time", says = "A drive is quiet in an hour that is sold for it (also when it is spoiled).")
    void quietInSoldHours() {
        SilentDrives x = new SilentDrives();
        x.sell(3, 1);
        x.sell(3, 99);
        for (int[] due : new int[][] {{0, 0}, {59, 0}, {60, 1}, {119, 1}, {120, 0}, {5939, 0}, {5940, 1}, {5999, 1}, {6000, 0}, {6060, 0}}) {
            passTo(x, due[0]);
            due("quiet in the minute " + due[0], x.ofDrive(3, 4), due[1]);
            due("the twin in the minute " + due[0], x.ofDrive(2, 4), 0);
        }
        SilentDrives spoiled = quietTwins(0, 61);
        due("hour(0, 1)", spoiled.hour(0, 1), 3);
        due("quiet in a spoiled hour", spoiled.ofDrive(0, 4), 1);
        spoiled.pass(58);
        // With 3 free cells a drive that is not quiet would clean up.
        cells("in the last minute of a spoiled hour", spoiled, 0, 3, 57, 0, 0);
        due("quiet in the last minute", spoiled.ofDrive(0, 4), 1);
        spoiled.pass(1);
        due("quiet in the next hour", spoiled.ofDrive(0, 4), 0);
    }

    @Sentence(in = "Drives, time", says = "A drive has a stream: every so many minutes so many units (every 1 minute, 0 units at first).")
    void theFirstStream() {
        SilentDrives x = new SilentDrives();
        for (int drive = 0; drive < 4; drive++) {
            due("minutes of the stream of " + drive, x.ofDrive(drive, 12), 1);
            due("units of the stream of " + drive, x.ofDrive(drive, 13), 0);
        }
        x.pass(600);
        for (int drive = 0; drive < 4; drive++) {
            due("units that 0 every minute are", x.ofDrive(drive, 6) + x.ofDrive(drive, 3), 0);
        }
        x.stream(0, 1, 1);
        x.pass(3);
        due("units of three minutes", x.ofDrive(0, 6), 3);
    }
}
