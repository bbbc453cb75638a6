/** Promises 1 to 7: a new object, set, stream, write, sell, giveBack, pass. */
final class OfChanges extends Tests {
    private static final int[] LEAST = {0, 0, 0, 0, 0, 1, 0};
    private static final int[] MOST = {999, 99, 9, 60, 60, 20, 60};
    private static final int[] FIRST = {60, 5, 2, 20, 50, 4, 20};

    // ---- 1: a new object

    @Sentence(in = "Promise 1: A new object", says = "Creates drives whose cells are all free.")
    void aNewObject() {
        isNew(new SilentDrives());
    }

    @Sentence(in = "Promise 1: A new object", says = "Creates drives whose cells are all free.")
    void anObjectKnowsOfNoOther() {
        busy();
        full();
        isNew(new SilentDrives());
    }

    private void isNew(SilentDrives x) {
        String drive = ": 60 0 0 0 0 0 0 0 0 0 0 0 1 0 0 -6 0";
        same("a new object", Looks.state(x), "count: 0 0 0 0 0 0 60 5 2 20 50 4 20; drive 0" + drive + "; drive 1" + drive
                + "; drive 2" + drive + "; drive 3" + drive);
        due("the length of the pad of a new object", x.count(13), 0);
        due("changes of a new object", x.count(14), 0);
        due("fault() of a new object", x.fault(), 0);
        due("carryOut() of a new object", x.carryOut(), BAD_TEXT);
        due("undo() of a new object", x.undo(), NOT_POSSIBLE);
        due("restore(0) of a new object", x.restore(0), NOT_POSSIBLE);
        due("restore(1) of a new object", x.restore(1), NOT_POSSIBLE);
        same("the hours of a new object", Looks.hours(x), "hours:" + (" " + "0".repeat(100)).repeat(4));
    }

    // ---- 2: set

    @Sentence(in = "Promise 2: set", says = "Changes a setting.")
    void setChangesOneSetting() {
        for (int setting = 0; setting < 7; setting++) {
            SilentDrives x = new SilentDrives();
            x.set(setting, MOST[setting]);
            for (int other = 0; other < 7; other++) {
                due("the setting " + other + " behind set(" + setting + ", ..)", x.count(6 + other),
                        other == setting ? MOST[other] : FIRST[other]);
            }
        }
    }

    @Sentence(in = "Promise 2: set", says = "This is a change.")
    void setIsAChange() {
        isAChange("set(HIGH, 3)", SilentDrives::new, x -> x.set(HIGH, 3));
        isAChange("set(PRICE, 60) to the same", SilentDrives::new, x -> x.set(PRICE, 60));
        isAChange("set(ROOM, 9), with a full history", Tests::busy, x -> x.set(ROOM, 9));
        isAChange("set() that answers 0", () -> {
            SilentDrives x = new SilentDrives();
            x.set(FINE, 0);
            return x;
        }, x -> x.set(FINE, 1));
    }

    @Sentence(in = "Promise 2: set", says = "Returns the previous value;")
    void setReturnsThePrevious() {
        for (int setting = 0; setting < 7; setting++) {
            SilentDrives x = new SilentDrives();
            due("set(" + setting + ", most)", x.set(setting, MOST[setting]), FIRST[setting]);
            due("set(" + setting + ", least)", x.set(setting, LEAST[setting]), MOST[setting]);
            due("set(" + setting + ", least) again", x.set(setting, LEAST[setting]), LEAST[setting]);
            due("set(" + setting + ", least + 1)", x.set(setting, LEAST[setting] + 1), LEAST[setting]);
            due("set(" + setting + ", most)", x.set(setting, MOST[setting]), LEAST[setting] + 1);
        }
    }

    @Sentence(in = "Promise 2: set", says = "BAD_VALUE if there is no such setting, or the value is out of its range.")
    void setOfNoSettingOrNoValue() {
        for (int setting : new int[] {-1, 7, Integer.MIN_VALUE, Integer.MAX_VALUE}) {
            changesNothing("set(" + setting + ", 1)", Tests::busy, x -> x.set(setting, 1), BAD_VALUE);
        }
        for (int i = 0; i < 7; i++) {
            int setting = i;
            changesNothing("set(" + setting + ", below)", Tests::busy, x -> x.set(setting, LEAST[setting] - 1), BAD_VALUE);
            changesNothing("set(" + setting + ", above)", Tests::busy, x -> x.set(setting, MOST[setting] + 1), BAD_VALUE);
        }
    }

    // ---- 3: stream

    @Sentence(in = "Promise 3: stream", says = "Changes the stream of a drive.")
    void streamChangesOneDrive() {
        for (int drive = 0; drive < 4; drive++) {
            SilentDrives x = new SilentDrives();
            x.stream(drive, 7, 3);
            for (int other = 0; other < 4; other++) {
                due("minutes of the stream of " + other, x.ofDrive(other, 12), other == drive ? 7 : 1);
                due("units of the stream of " + other, x.ofDrive(other, 13), other == drive ? 3 : 0);
            }
            x.pass(8);
            due("units of the minutes 0 and 7", x.ofDrive(drive, 6), 6);
        }
    }

    @Sentence(in = "Promise 3: stream", says = "This is a change.")
    void streamIsAChange() {
        isAChange("stream(3, 60, 20)", SilentDrives::new, x -> x.stream(3, 60, 20));
        isAChange("stream(0, 1, 0), the same", SilentDrives::new, x -> x.stream(0, 1, 0));
        isAChange("stream(1, 2, 3), with a full history", Tests::busy, x -> x.stream(1, 2, 3));
    }

    @Sentence(in = "Promise 3: stream", says = "`every`: 1 to 60 minutes")
    void everyFrom1To60() {
        for (int every : new int[] {1, 60}) {
            SilentDrives x = new SilentDrives();
            due("stream(3, " + every + ", 1)", x.stream(3, every, 1), 0);
            due("minutes of the stream", x.ofDrive(3, 12), every);
            x.pass(every);
            due("units up to the minute " + (every - 1), x.ofDrive(3, 6), 1);
            x.pass(1);
            due("units with the minute " + every, x.ofDrive(3, 6), 2);
        }
        for (int every : new int[] {0, 61}) {
            changesNothing("stream(3, " + every + ", 1)", Tests::busy, x -> x.stream(3, every, 1), BAD_VALUE);
        }
    }

    @Sentence(in = "Promise 3: stream", says = "`units`: 0 to 20")
    void unitsFrom0To20() {
        for (int units : new int[] {0, 20}) {
            SilentDrives x = new SilentDrives();
            due("stream(0, 1, " + units + ")", x.stream(0, 1, units), 0);
            due("units of the stream", x.ofDrive(0, 13), units);
            x.pass(1);
            due("units of a minute", x.ofDrive(0, 6), units);
        }
        for (int units : new int[] {-1, 21}) {
            changesNothing("stream(0, 1, " + units + ")", Tests::busy, x -> x.stream(0, 1, units), BAD_VALUE);
        }
    }

    @Sentence(in = "Promise 3: stream", says = "Returns the units of its stream before;")
    void streamReturnsTheUnitsBefore() {
        SilentDrives x = new SilentDrives();
        due("stream(1, 60, 20)", x.stream(1, 60, 20), 0);
        due("stream(1, 2, 1)", x.stream(1, 2, 1), 20);
        due("stream(1, 2, 1) again", x.stream(1, 2, 1), 1);
        due("stream(2, 2, 1), of another drive", x.stream(2, 2, 1), 0);
        due("stream(1, 1, 0)", x.stream(1, 1, 0), 1);
        due("stream(1, 1, 0)", x.stream(1, 1, 0), 0);
    }

    @Sentence(in = "Promise 3: stream", says = "NO_SUCH if there is no such drive;")
    void streamOfNoDrive() {
        noSuchDrive("stream(.., 1, 1)", (x, drive) -> x.stream(drive, 1, 1));
        noSuchDrive("stream(.., 0, 21)", (x, drive) -> x.stream(drive, 0, 21));
    }

    @Sentence(in = "Promise 3: stream", says = "BAD_VALUE if another argument is out of range.")
    void streamOutOfRange() {
        for (int every : new int[] {-1, 0, 61, Integer.MIN_VALUE, Integer.MAX_VALUE}) {
            changesNothing("stream(0, " + every + ", 20)", Tests::busy, x -> x.stream(0, every, 20), BAD_VALUE);
        }
        for (int units : new int[] {-1, 21, Integer.MIN_VALUE, Integer.MAX_VALUE}) {
            changesNothing("stream(3, 60, " + units + ")", Tests::busy, x -> x.stream(3, 60, units), BAD_VALUE);
        }
    }

    // ---- 4: write

    @Sentence(in = "Promise 4: write", says = "Units come to a drive, and are held.")
    void writtenUnitsAreHeld() {
        for (int drive = 0; drive < 4; drive++) {
            SilentDrives x = new SilentDrives();
            x.write(drive, 5);
            for (int other = 0; other < 4; other++) {
                cells("until a minute passes", x, other, 60, 0, 0, other == drive ? 5 : 0);
                due("written by " + other, x.ofDrive(other, 6), 0);
            }
        }
    }

    @Sentence(in = "Promise 4: write", says = "This is a change.")
    void writeIsAChange() {
        isAChange("write(2, 1)", SilentDrives::new, x -> x.write(2, 1));
        isAChange("write(0, 8), with a full history", Tests::busy, x -> x.write(0, 8));
    }

    @Sentence(in = "Promise 4: write", says = "`units`: 1 to 200")
    void unitsFrom1To200() {
        SilentDrives x = new SilentDrives();
        due("write(1, 1)", x.write(1, 1), 1);
        due("write(2, 200)", x.write(2, 200), 200);
        for (int units : new int[] {0, 201}) {
            changesNothing("write(1, " + units + ")", Tests::busy, y -> y.write(1, units), BAD_VALUE);
        }
    }

    @Sentence(in = "Promise 4: write", says = "Returns how many units it holds then;")
    void writeReturnsWhatIsHeld() {
        SilentDrives x = new SilentDrives();
        x.set(LOW, 0);
        due("write(3, 1)", x.write(3, 1), 1);
        due("write(3, 200)", x.write(3, 200), 201);
        due("write(0, 2)", x.write(0, 2), 2);
        x.pass(1);
        due("write(3, 9), 141 being held", x.write(3, 9), 150);
        due("write(0, 7), nothing being held", x.write(0, 7), 7);
    }

    @Sentence(in = "Promise 4: write", says = "NO_SUCH if there is no such drive;")
    void writeToNoDrive() {
        noSuchDrive("write(.., 1)", (x, drive) -> x.write(drive, 1));
        noSuchDrive("write(.., 0)", (x, drive) -> x.write(drive, 0));
    }

    @Sentence(in = "Promise 4: write", says = "BAD_VALUE if units is out of range;")
    void writeOutOfRange() {
        for (int units : new int[] {-1, 0, 201, Integer.MIN_VALUE, Integer.MAX_VALUE}) {
            changesNothing("write(0, " + units + ")", Tests::busy, x -> x.write(0, units), BAD_VALUE);
            changesNothing("write(2, " + units + ") on 9999", Tests::full, x -> x.write(2, units), BAD_VALUE);
        }
    }

    private static SilentDrives holding9800() {
        SilentDrives x = full();
        x.undo();
        return x;
    }

    @Sentence(in = "Promise 4: write", says = "TOO_MANY if it would hold more than 9999.")
    void holds9999AtMost() {
        due("write(2, 199) on 9800", holding9800().write(2, 199), 9999);
        due("write(2, 198) on 9800", holding9800().write(2, 198), 9998);
        changesNothing("write(2, 200) on 9800", OfChanges::holding9800, x -> x.write(2, 200), TOO_MANY);
        changesNothing("write(2, 1) on 9999", Tests::full, x -> x.write(2, 1), TOO_MANY);
        changesNothing("write(2, 200) on 9999", Tests::full, x -> x.write(2, 200), TOO_MANY);
        SilentDrives x = full();
        due("write(3, 1), of another drive", x.write(3, 1), 1);
        x.pass(1);
        due("write(2, 60), 9939 being held", x.write(2, 60), 9999);
        due("write(2, 1)", x.write(2, 1), TOO_MANY);
    }

    @Sentence(in = "Promise 4: write", says = "TOO_MANY if it would hold more than 9999.")
    void aStreamMayBringMore() {
        SilentDrives x = full();
        x.set(LOW, 0);
        x.stream(2, 1, 20);
        x.pass(5);
        due("held, 100 having come and 60 being written", x.ofDrive(2, 3), 10039);
        due("write(2, 1)", x.write(2, 1), TOO_MANY);
        due("write(2, 0)", x.write(2, 0), BAD_VALUE);
    }

    // ---- 5: sell

    @Sentence(in = "Promise 5: sell", says = "Sells an hour of a drive.")
    void sellSellsOneHour() {
        for (int drive = 0; drive < 4; drive++) {
            SilentDrives x = new SilentDrives();
            x.sell(drive, 7);
            String none = " " + "0".repeat(100);
            same("the hours", Looks.hours(x), "hours:" + none.repeat(drive) + " 00000001" + "0".repeat(92) + none.repeat(3 - drive));
        }
    }

    @Sentence(in = "Promise 5: sell", says = "This is a change.")
    void sellIsAChange() {
        isAChange("sell(3, 99)", SilentDrives::new, x -> x.sell(3, 99));
        isAChange("sell(0, 3), with a full history", Tests::busy, x -> x.sell(0, 3));
    }

    @Sentence(in = "Promise 5: sell", says = "`hour`: 0 to 99")
    void sellFrom0To99() {
        due("sell(0, 0), which is in range, but of now", new SilentDrives().sell(0, 0), NOT_POSSIBLE);
        due("sell(0, 1)", new SilentDrives().sell(0, 1), 1);
        due("sell(0, 99)", new SilentDrives().sell(0, 99), 1);
        changesNothing("sell(0, -1)", Tests::busy, x -> x.sell(0, -1), BAD_VALUE);
        changesNothing("sell(0, 100)", Tests::busy, x -> x.sell(0, 100), BAD_VALUE);
    }

    /** The hour 1 is kept, 2 is spoiled, 3 is of now: 100 units came to the drive 0 in the hour 2. */
    private static SilentDrives keptAndSpoiled() {
        SilentDrives x = new SilentDrives();
        x.set(ROOM, 0);
        for (int hour = 1; hour < 4; hour++) {
            x.sell(0, hour);
            x.sell(1, hour);
        }
        x.pass(130);
        x.write(0, 100);
        x.pass(51);
        return x;
    }

    @Sentence(in = "Promise 5: sell", says = "Returns how many hours of the drive are sold then, kept and spoiled ones, too;")
    void sellReturnsHowManyAreSold() {
        SilentDrives x = keptAndSpoiled();
        due("the hour 1", x.hour(0, 1), 2);
        due("the hour 2", x.hour(0, 2), 3);
        due("sell(0, 50) beside a kept, a spoiled and a sold one", x.sell(0, 50), 4);
        due("sell(0, 4)", x.sell(0, 4), 5);
        due("sell(2, 4), of another drive", x.sell(2, 4), 1);
        SilentDrives all = new SilentDrives();
        for (int hour = 99; hour > 0; hour--) {
            due("sell(2, " + hour + ")", all.sell(2, hour), 100 - hour);
        }
    }

    @Sentence(in = "Promise 5: sell", says = "NO_SUCH if there is no such drive;")
    void sellOfNoDrive() {
        noSuchDrive("sell(.., 50)", (x, drive) -> x.sell(drive, 50));
        noSuchDrive("sell(.., 100)", (x, drive) -> x.sell(drive, 100));
        noSuchDrive("sell(.., 0)", (x, drive) -> x.sell(drive, 0));
    }

    @Sentence(in = "Promise 5: sell", says = "BAD_VALUE if hour is out of range;")
    void sellOutOfRange() {
        for (int hour : NO_HOURS) {
            changesNothing("sell(3, " + hour + ")", Tests::busy, x -> x.sell(3, hour), BAD_VALUE);
        }
    }

    @Sentence(in = "Promise 5: sell", says = "NOT_POSSIBLE if it is not later than the hour of now, or is sold already.")
    void sellOnlyHoursToCome() {
        changesNothing("sell(0, 0) in the minute 0", SilentDrives::new, x -> x.sell(0, 0), NOT_POSSIBLE);
        changesNothing("sell(0, 0) in the minute 59", () -> atMinute(59), x -> x.sell(0, 0), NOT_POSSIBLE);
        due("sell(0, 1) in the minute 59", atMinute(59).sell(0, 1), 1);
        changesNothing("sell(0, 1) in the minute 60", () -> atMinute(60), x -> x.sell(0, 1), NOT_POSSIBLE);
        changesNothing("sell(0, 0) in the minute 60", () -> atMinute(60), x -> x.sell(0, 0), NOT_POSSIBLE);
        due("sell(0, 2) in the minute 60", atMinute(60).sell(0, 2), 1);
        due("sell(3, 99) in the minute 5939", atMinute(5939).sell(3, 99), 1);
        changesNothing("sell(3, 99) in the minute 5940", () -> atMinute(5940), x -> x.sell(3, 99), NOT_POSSIBLE);
        changesNothing("sell(3, 99) in the minute 6000", () -> atMinute(6000), x -> x.sell(3, 99), NOT_POSSIBLE);
        changesNothing("sell(3, 100) in the minute 5999", () -> atMinute(5999), x -> x.sell(3, 100), BAD_VALUE);
    }

    @Sentence(in = "Promise 5: sell", says = "NOT_POSSIBLE if it is not later than the hour of now, or is sold already.")
    void sellOnce() {
        for (int hour : new int[] {1, 99}) {
            Maker sold = () -> {
                SilentDrives x = new SilentDrives();
                x.sell(2, hour);
                return x;
            };
            changesNothing("sell(2, " + hour + "), sold", sold, x -> x.sell(2, hour), NOT_POSSIBLE);
            due("sell(3, " + hour + "), not sold for it", sold.make().sell(3, hour), 1);
        }
        Maker all = () -> {
            SilentDrives x = new SilentDrives();
            for (int hour = 1; hour < 100; hour++) {
                x.sell(2, hour);
            }
            return x;
        };
        for (int hour : new int[] {0, 1, 50, 99}) {
            due("sell(2, " + hour + "), all hours being sold", all.make().sell(2, hour), NOT_POSSIBLE);
        }
        SilentDrives one = all.make();
        due("giveBack(2, 50) of all", one.giveBack(2, 50), 98);
        due("sell(2, 50), which is not sold any more", one.sell(2, 50), 99);
        due("sell(3, 50), of another drive", one.sell(3, 50), 1);
        changesNothing("sell(0, 1), kept", OfChanges::keptAndSpoiled, x -> x.sell(0, 1), NOT_POSSIBLE);
        changesNothing("sell(0, 2), spoiled", OfChanges::keptAndSpoiled, x -> x.sell(0, 2), NOT_POSSIBLE);
        changesNothing("sell(0, 3), of now", OfChanges::keptAndSpoiled, x -> x.sell(0, 3), NOT_POSSIBLE);
    }

    // ---- 6: giveBack

    @Sentence(in = "Promise 6: giveBack", says = "An hour of a drive that was sold is not sold any more.")
    void givenBackHoursAreNotSold() {
        SilentDrives x = new SilentDrives();
        x.sell(2, 1);
        x.sell(2, 99);
        x.sell(3, 1);
        x.giveBack(2, 1);
        due("hour(2, 1)", x.hour(2, 1), 0);
        due("hour(2, 99)", x.hour(2, 99), 1);
        due("hour(3, 1)", x.hour(3, 1), 1);
        x.pass(61);
        due("quiet in the hour that was given back", x.ofDrive(2, 4), 0);
        due("earned, for another drive", x.count(2), 60);
        x.giveBack(2, 99);
        due("hour(2, 99)", x.hour(2, 99), 0);
        due("sell(2, 99) again", x.sell(2, 99), 1);
    }

    private static SilentDrives sold1And99() {
        SilentDrives x = new SilentDrives();
        x.sell(0, 1);
        x.sell(0, 99);
        return x;
    }

    @Sentence(in = "Promise 6: giveBack", says = "This is a change.")
    void giveBackIsAChange() {
        isAChange("giveBack(0, 99)", OfChanges::sold1And99, x -> x.giveBack(0, 99));
        isAChange("giveBack(1, 3), with a full history", Tests::busy, x -> x.giveBack(1, 3));
        isAChange("giveBack() that answers 0", () -> {
            SilentDrives x = new SilentDrives();
            x.sell(3, 1);
            return x;
        }, x -> x.giveBack(3, 1));
    }

    @Sentence(in = "Promise 6: giveBack", says = "Returns as for sell();")
    void giveBackReturnsHowManyAreSold() {
        SilentDrives x = keptAndSpoiled();
        x.sell(0, 4);
        x.sell(0, 99);
        due("giveBack(0, 99) beside a kept, a spoiled and two sold ones", x.giveBack(0, 99), 4);
        due("giveBack(0, 4)", x.giveBack(0, 4), 3);
        SilentDrives last = sold1And99();
        due("giveBack(0, 1)", last.giveBack(0, 1), 1);
        due("giveBack(0, 99), the last one", last.giveBack(0, 99), 0);
    }

    @Sentence(in = "Promise 6: giveBack", says = "NO_SUCH if there is no such drive;")
    void giveBackOfNoDrive() {
        noSuchDrive("giveBack(.., 3)", (x, drive) -> x.giveBack(drive, 3));
        noSuchDrive("giveBack(.., 100)", (x, drive) -> x.giveBack(drive, 100));
        noSuchDrive("giveBack(.., 0)", (x, drive) -> x.giveBack(drive, 0));
    }

    @Sentence(in = "Promise 6: giveBack", says = "BAD_VALUE if hour is not 0 to 99;")
    void giveBackOutOfRange() {
        due("giveBack(0, 0), which is in range, but of now", new SilentDrives().giveBack(0, 0), NOT_POSSIBLE);
        due("giveBack(0, 99), which is in range, but not sold", new SilentDrives().giveBack(0, 99), NOT_POSSIBLE);
        for (int hour : NO_HOURS) {
            changesNothing("giveBack(0, " + hour + ")", Tests::busy, x -> x.giveBack(0, hour), BAD_VALUE);
        }
    }

    private static SilentDrives sold1And99At(int minute) {
        SilentDrives x = sold1And99();
        passTo(x, minute);
        return x;
    }

    @Sentence(in = "Promise 6: giveBack", says = "NOT_POSSIBLE if it is not later than the hour of now, or is not sold.")
    void giveBackOnlyHoursToCome() {
        due("giveBack(0, 1) in the minute 59", sold1And99At(59).giveBack(0, 1), 1);
        changesNothing("giveBack(0, 1) in the minute 60", () -> sold1And99At(60), x -> x.giveBack(0, 1), NOT_POSSIBLE);
        changesNothing("giveBack(0, 1) in the minute 119", () -> sold1And99At(119), x -> x.giveBack(0, 1), NOT_POSSIBLE);
        changesNothing("giveBack(0, 1), ended", () -> sold1And99At(120), x -> x.giveBack(0, 1), NOT_POSSIBLE);
        due("giveBack(0, 99) in the minute 5939", sold1And99At(5939).giveBack(0, 99), 1);
        changesNothing("giveBack(0, 99) in the minute 5940", () -> sold1And99At(5940), x -> x.giveBack(0, 99), NOT_POSSIBLE);
        changesNothing("giveBack(0, 99) in the minute 6000", () -> sold1And99At(6000), x -> x.giveBack(0, 99), NOT_POSSIBLE);
        changesNothing("giveBack(0, 1), kept", OfChanges::keptAndSpoiled, x -> x.giveBack(0, 1), NOT_POSSIBLE);
        changesNothing("giveBack(0, 2), spoiled", OfChanges::keptAndSpoiled, x -> x.giveBack(0, 2), NOT_POSSIBLE);
    }

    @Sentence(in = "Promise 6: giveBack", says = "NOT_POSSIBLE if it is not later than the hour of now, or is not sold.")
    void giveBackOnlySoldHours() {
        changesNothing("giveBack(0, 2), not sold", OfChanges::sold1And99, x -> x.giveBack(0, 2), NOT_POSSIBLE);
        changesNothing("giveBack(1, 1), sold for another", OfChanges::sold1And99, x -> x.giveBack(1, 1), NOT_POSSIBLE);
        SilentDrives x = sold1And99();
        x.giveBack(0, 1);
        due("giveBack(0, 1) twice", x.giveBack(0, 1), NOT_POSSIBLE);
    }

    // ---- 7: pass

    @Sentence(in = "Promise 7: pass", says = "Lets minutes pass.")
    void passIsSoManyMinutes() {
        SilentDrives x = new SilentDrives();
        x.set(LOW, 0);
        for (int drive = 0; drive < 4; drive++) {
            x.stream(drive, 1, drive + 1);
        }
        x.pass(15);
        cells("behind 15 minutes", x, 0, 45, 15, 0, 0);
        cells("behind 15 minutes", x, 1, 30, 30, 0, 0);
        cells("behind 15 minutes", x, 2, 15, 45, 0, 0);
        cells("behind 15 minutes", x, 3, 0, 60, 0, 0);
        SilentDrives once = busy();
        SilentDrives oneByOne = busy();
        once.pass(100);
        for (int i = 0; i < 100; i++) {
            oneByOne.pass(1);
        }
        same("100 minutes at once", Looks.state(once), Looks.state(oneByOne));
    }

    @Sentence(in = "Promise 7: pass", says = "This is a change.")
    void passIsAChange() {
        isAChange("pass(1)", SilentDrives::new, x -> x.pass(1));
        isAChange("pass(600), with a full history", Tests::busy, x -> x.pass(600));
    }

    @Sentence(in = "Promise 7: pass", says = "`minutes`: 1 to 600")
    void passFrom1To600() {
        due("pass(1)", new SilentDrives().pass(1), 1);
        due("pass(600)", new SilentDrives().pass(600), 600);
        changesNothing("pass(0)", Tests::busy, x -> x.pass(0), BAD_VALUE);
        changesNothing("pass(601)", Tests::busy, x -> x.pass(601), BAD_VALUE);
    }

    @Sentence(in = "Promise 7: pass", says = "Returns the minute of now then;")
    void passReturnsTheMinuteOfNow() {
        SilentDrives x = new SilentDrives();
        due("pass(1)", x.pass(1), 1);
        due("pass(59)", x.pass(59), 60);
        for (int i = 1; i <= 11; i++) {
            due("pass(600)", x.pass(600), 60 + 600 * i);
        }
        due("the hour, behind those that can be sold", x.count(1), 111);
    }

    @Sentence(in = "Promise 7: pass", says = "BAD_VALUE if minutes is out of range.")
    void passOutOfRange() {
        for (int minutes : NO_MINUTES) {
            changesNothing("pass(" + minutes + ")", Tests::busy, x -> x.pass(minutes), BAD_VALUE);
        }
    }
}
