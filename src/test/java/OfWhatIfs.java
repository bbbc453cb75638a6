/** Promises 14 to 18: loudIn, freeIn, mostHeld, firstSafe, leastRoom. */
final class OfWhatIfs extends Tests {

    @Sentence(in = "Texts", says = "the interface says: ---- what if; nothing changes.")
    void whatIfsChangeNothing() {
        SilentDrives x = busy();
        for (int i = 0; i < 4; i++) {
            int drive = i;
            for (int minutes : new int[] {1, 600}) {
                changesNothing("loudIn", Tests::busy, y -> y.loudIn(drive, minutes), x.loudIn(drive, minutes));
                changesNothing("freeIn", Tests::busy, y -> y.freeIn(drive, minutes), x.freeIn(drive, minutes));
                changesNothing("mostHeld", Tests::busy, y -> y.mostHeld(drive, minutes), x.mostHeld(drive, minutes));
            }
            changesNothing("firstSafe", Tests::busy, y -> y.firstSafe(drive), x.firstSafe(drive));
        }
        for (int hours : new int[] {1, 10}) {
            changesNothing("leastRoom", Tests::busy, y -> y.leastRoom(hours), x.leastRoom(hours));
        }
    }

    // ---- 14: loudIn

    /** In the hour 1 both twins are quiet, and the drive 0 holds 20 units more than ROOM: it is loud from the minute 60 to 79. */
    private static SilentDrives loudFrom60To79() {
        SilentDrives x = new SilentDrives();
        x.set(LOW, 0);
        x.set(ROOM, 0);
        x.set(SPEED, 1);
        x.sell(0, 1);
        x.sell(1, 1);
        x.write(0, 80);
        return x;
    }

    @Sentence(in = "Promise 14: loudIn", says = "Tells how many overruns of a drive the next minutes would bring, if only time passed.")
    void overrunsOfTheNextMinutes() {
        SilentDrives x = loudFrom60To79();
        due("loudIn(0, 60), up to the minute 59", x.loudIn(0, 60), 0);
        due("loudIn(0, 61), up to the minute 60", x.loudIn(0, 61), 1);
        due("loudIn(0, 62)", x.loudIn(0, 62), 2);
        due("loudIn(0, 79), up to the minute 78", x.loudIn(0, 79), 19);
        due("loudIn(0, 80), up to the minute 79", x.loudIn(0, 80), 20);
        due("loudIn(0, 81)", x.loudIn(0, 81), 20);
        due("loudIn(0, 600)", x.loudIn(0, 600), 20);
        due("loudIn(1, 600), of the twin", x.loudIn(1, 600), 0);
        due("loudIn(3, 600)", x.loudIn(3, 600), 0);
        x.pass(60);
        due("loudIn(0, 1) in the minute 60", x.loudIn(0, 1), 1);
        x.pass(19);
        due("loudIn(0, 600) in the minute 79, without those that were", x.loudIn(0, 600), 1);
        x.pass(1);
        due("loudIn(0, 600) in the minute 80", x.loudIn(0, 600), 0);
        due("overruns so far", x.ofDrive(0, 8), 20);
    }

    @Sentence(in = "Promise 14: loudIn", says = "`minutes`: 1 to 600")
    void loudInFrom1To600() {
        SilentDrives x = new SilentDrives();
        x.set(LOW, 0);
        x.set(ROOM, 0);
        x.sell(2, 10);
        x.sell(3, 10);
        x.write(3, 61);
        x.pass(1);
        // The 600th of the next minutes is the minute 600, the first one of the hour 10.
        due("loudIn(3, 599)", x.loudIn(3, 599), 0);
        due("loudIn(3, 600)", x.loudIn(3, 600), 1);
        due("loudIn(3, 1)", x.loudIn(3, 1), 0);
        changesNothing("loudIn(3, 0)", Tests::busy, y -> y.loudIn(3, 0), BAD_VALUE);
        changesNothing("loudIn(3, 601)", Tests::busy, y -> y.loudIn(3, 601), BAD_VALUE);
    }

    @Sentence(in = "Promise 14: loudIn", says = "Returns how many; NO_SUCH if there is no such drive;")
    void loudInOfNoDrive() {
        noSuchDrive("loudIn(.., 1)", (x, drive) -> x.loudIn(drive, 1));
        noSuchDrive("loudIn(.., 601)", (x, drive) -> x.loudIn(drive, 601));
    }

    @Sentence(in = "Promise 14: loudIn", says = "BAD_VALUE if minutes is out of range.")
    void loudInOutOfRange() {
        for (int minutes : NO_MINUTES) {
            changesNothing("loudIn(0, " + minutes + ")", Tests::busy, x -> x.loudIn(0, minutes), BAD_VALUE);
        }
    }

    // ---- 15: freeIn

    @Sentence(in = "Promise 15: freeIn", says = "Tells how many free cells a drive would have, if only time passed.")
    void freeCellsBehindTheNextMinutes() {
        SilentDrives x = new SilentDrives();
        x.write(0, 60);
        due("freeIn(0, 1)", x.freeIn(0, 1), 4);
        due("freeIn(0, 2)", x.freeIn(0, 2), 8);
        due("freeIn(0, 12)", x.freeIn(0, 12), 48);
        due("freeIn(0, 13)", x.freeIn(0, 13), 52);
        due("freeIn(0, 600)", x.freeIn(0, 600), 52);
        due("freeIn(1, 600), of another", x.freeIn(1, 600), 60);
        due("free cells now", x.ofDrive(0, 0), 60);
        x.set(LOW, 0);
        due("freeIn(0, 1) without a cell that is cleaned up", x.freeIn(0, 1), 0);
        SilentDrives lent = lentByTwin();
        due("freeIn(1, 1) of one that keeps 25", lent.freeIn(1, 1), 35);
    }

    @Sentence(in = "Promise 15: freeIn", says = "`minutes`: 1 to 600")
    void freeInFrom1To600() {
        SilentDrives x = new SilentDrives();
        x.pass(1);
        x.stream(1, 60, 1);
        // One unit with each of the minutes 60, 120, .. 600.
        due("freeIn(1, 1)", x.freeIn(1, 1), 60);
        due("freeIn(1, 59)", x.freeIn(1, 59), 60);
        due("freeIn(1, 60)", x.freeIn(1, 60), 59);
        due("freeIn(1, 599)", x.freeIn(1, 599), 51);
        due("freeIn(1, 600)", x.freeIn(1, 600), 50);
        changesNothing("freeIn(1, 0)", Tests::busy, y -> y.freeIn(1, 0), BAD_VALUE);
        changesNothing("freeIn(1, 601)", Tests::busy, y -> y.freeIn(1, 601), BAD_VALUE);
    }

    @Sentence(in = "Promise 15: freeIn", says = "Returns how many; errors as for loudIn().")
    void freeInOfNoDriveOrOutOfRange() {
        noSuchDrive("freeIn(.., 1)", (x, drive) -> x.freeIn(drive, 1));
        noSuchDrive("freeIn(.., 0)", (x, drive) -> x.freeIn(drive, 0));
        for (int minutes : NO_MINUTES) {
            changesNothing("freeIn(0, " + minutes + ")", Tests::busy, x -> x.freeIn(0, minutes), BAD_VALUE);
        }
    }

    // ---- 16: mostHeld

    @Sentence(in = "Promise 16: mostHeld", says = "Tells how many units a drive would hold at most behind one of the next minutes, if"
            + " only time passed.")
    void mostBehindOneOfTheNextMinutes() {
        SilentDrives x = new SilentDrives();
        x.write(0, 100);
        // 100 are held now, 40 behind the first minute, and fewer behind each one after it.
        due("mostHeld(0, 1)", x.mostHeld(0, 1), 40);
        due("mostHeld(0, 2), the most being behind the first", x.mostHeld(0, 2), 40);
        due("mostHeld(0, 600)", x.mostHeld(0, 600), 40);
        due("mostHeld(1, 600), of another", x.mostHeld(1, 600), 0);
        due("held now", x.ofDrive(0, 3), 100);
        SilentDrives few = new SilentDrives();
        few.write(0, 60);
        due("mostHeld(0, 1) of 60", few.mostHeld(0, 1), 0);
        few.write(0, 1);
        due("mostHeld(0, 1) of 61", few.mostHeld(0, 1), 1);
    }

    @Sentence(in = "Promise 16: mostHeld", says = "`minutes`: 1 to 600")
    void mostHeldFrom1To600() {
        SilentDrives x = new SilentDrives();
        x.set(LOW, 0);
        x.pass(1);
        x.stream(2, 60, 20);
        // 20 units with each of the minutes 60, 120, .. 600; 60 are written.
        due("mostHeld(2, 1)", x.mostHeld(2, 1), 0);
        due("mostHeld(2, 239), up to the minute 239", x.mostHeld(2, 239), 0);
        due("mostHeld(2, 240), up to the minute 240", x.mostHeld(2, 240), 20);
        due("mostHeld(2, 599)", x.mostHeld(2, 599), 120);
        due("mostHeld(2, 600), the most being behind the last", x.mostHeld(2, 600), 140);
        changesNothing("mostHeld(2, 0)", Tests::busy, y -> y.mostHeld(2, 0), BAD_VALUE);
        changesNothing("mostHeld(2, 601)", Tests::busy, y -> y.mostHeld(2, 601), BAD_VALUE);
    }

    @Sentence(in = "Promise 16: mostHeld", says = "Returns how many; errors as for loudIn().")
    void mostHeldOfNoDriveOrOutOfRange() {
        noSuchDrive("mostHeld(.., 1)", (x, drive) -> x.mostHeld(drive, 1));
        noSuchDrive("mostHeld(.., 0)", (x, drive) -> x.mostHeld(drive, 0));
        for (int minutes : NO_MINUTES) {
            changesNothing("mostHeld(0, " + minutes + ")", Tests::busy, x -> x.mostHeld(0, minutes), BAD_VALUE);
        }
    }

    // ---- 17: firstSafe

    /** The hours up to the last one are sold for the drive 2. */
    private static SilentDrives soldUpTo(int last) {
        SilentDrives x = new SilentDrives();
        for (int hour = 1; hour <= last; hour++) {
            x.sell(2, hour);
        }
        return x;
    }

    @Sentence(in = "Promise 17: firstSafe", says = "Finds the first hour, of the 24 behind that of now,")
    void oneOf24Hours() {
        due("firstSafe(2), the first of 24", soldUpTo(0).firstSafe(2), 1);
        due("firstSafe(2), the second of 24", soldUpTo(1).firstSafe(2), 2);
        due("firstSafe(2), the last of 24", soldUpTo(23).firstSafe(2), 24);
        SilentDrives x = soldUpTo(24);
        due("firstSafe(2), no more than 24", x.firstSafe(2), NONE);
        due("firstSafe(3)", x.firstSafe(3), 1);
        x.pass(59);
        due("firstSafe(2) in the last minute of the hour 0", x.firstSafe(2), NONE);
        due("firstSafe(3) in the last minute of the hour 0", x.firstSafe(3), 1);
        x.pass(1);
        due("firstSafe(2) in the first minute of the hour 1", x.firstSafe(2), 25);
        due("firstSafe(3) in the first minute of the hour 1", x.firstSafe(3), 2);
    }

    @Sentence(in = "Promise 17: firstSafe", says = "that can be sold for a drive (it is 0 to 99 and not sold),")
    void oneThatCanBeSold() {
        SilentDrives x = new SilentDrives();
        x.sell(0, 1);
        x.sell(0, 3);
        due("firstSafe(0) between sold ones", x.firstSafe(0), 2);
        x.sell(0, 2);
        due("firstSafe(0) behind sold ones", x.firstSafe(0), 4);
        x.giveBack(0, 2);
        due("firstSafe(0), one being given back", x.firstSafe(0), 2);
        due("sell(0, 2)", x.sell(0, 2), 3);
        SilentDrives late = atMinute(5939);
        due("firstSafe(3) in the hour 98", late.firstSafe(3), 99);
        late.sell(3, 99);
        due("firstSafe(3), the hour 99 being sold", late.firstSafe(3), NONE);
        due("firstSafe(2)", late.firstSafe(2), 99);
        late.pass(1);
        due("firstSafe(2) in the hour 99", late.firstSafe(2), NONE);
        late.pass(60);
        due("firstSafe(2) in the hour 100", late.firstSafe(2), NONE);
        late.pass(600);
        due("firstSafe(2) in the hour 110", late.firstSafe(2), NONE);
        SilentDrives end = atMinute(75 * 60);
        for (int hour = 76; hour < 99; hour++) {
            end.sell(1, hour);
        }
        due("firstSafe(1) in the hour 75, the last of 24 being 99", end.firstSafe(1), 99);
        end.sell(1, 99);
        due("firstSafe(1) in the hour 75", end.firstSafe(1), NONE);
        end.pass(60);
        due("firstSafe(1) in the hour 76, the last of 24 being 100", end.firstSafe(1), NONE);
    }

    /** LOW is 0; both drives are written so many units, of which 60 are written and the others are held for good. */
    private static SilentDrives holding(int first, int second) {
        SilentDrives x = new SilentDrives();
        x.set(LOW, 0);
        if (first > 0) {
            x.write(0, first);
        }
        if (second > 0) {
            x.write(1, second);
        }
        return x;
    }

    private static final String SAFE = "and in which, if it was sold and only time passed, no drive would have an overrun.";

    @Sentence(in = "Promise 17: firstSafe", says = SAFE)
    void noOverrunIfItWasSold() {
        // The twin is full, so nothing can be lent: ROOM units may be held, no more.
        due("firstSafe(0) with ROOM units", holding(80, 60).firstSafe(0), 1);
        due("firstSafe(0) with one more", holding(81, 60).firstSafe(0), NONE);
        due("firstSafe(1) beside it", holding(81, 60).firstSafe(1), 1);
        // The twin has one free cell.
        due("firstSafe(0) with one more, that can be lent", holding(81, 59).firstSafe(0), 1);
        due("firstSafe(0) with two more", holding(82, 59).firstSafe(0), NONE);
        // In the hour 1 the twin is quiet, too; in the hour 2 it keeps what is above ROOM.
        SilentDrives x = holding(81, 0);
        x.sell(1, 1);
        due("firstSafe(0) with a twin that is quiet in the hour 1", x.firstSafe(0), 2);
        x.sell(0, 1);
        due("the overruns, were it sold", x.loudIn(0, 120), 1);
    }

    @Sentence(in = "Promise 17: firstSafe", says = SAFE)
    void noOverrunOfAnyDrive() {
        // The drive 0 is loud in the hour 2, which is sold for it: no drive's hour is safe then.
        SilentDrives x = holding(81, 60);
        x.sell(0, 2);
        for (int drive = 1; drive < 4; drive++) {
            due("firstSafe(" + drive + ")", x.firstSafe(drive), 1);
            x.sell(drive, 1);
            due("firstSafe(" + drive + "), the hour 1 being sold", x.firstSafe(drive), 3);
        }
        // The drive 2 can lend in the hour 1, unless its twin were quiet, too.
        SilentDrives y = new SilentDrives();
        y.sell(2, 1);
        y.pass(59);
        y.write(2, 139);
        due("loudIn(2, 61)", y.loudIn(2, 61), 0);
        due("firstSafe(3), the twin", y.firstSafe(3), 2);
        due("firstSafe(0)", y.firstSafe(0), 1);
    }

    @Sentence(in = "Promise 17: firstSafe", says = SAFE)
    void overrunsAheadOfTheHourDoNotCount() {
        SilentDrives x = loudFrom60To79();
        due("loudIn(0, 120)", x.loudIn(0, 120), 20);
        due("firstSafe(2), behind the loud hour", x.firstSafe(2), 2);
        due("firstSafe(0), behind its own loud hour", x.firstSafe(0), 2);
        x.pass(70);
        due("firstSafe(2) in the loud hour", x.firstSafe(2), 2);
    }

    /**
     * The drive holds ROOM units when the hour 1 begins, has no free cell, and is given one unit more each minute: in a
     * quiet hour it lends one each minute, until its twin, with so many free cells, has none. It is the minute 0.
     */
    private static SilentDrives lendingEachMinute(int drive, int freeOfTwin) {
        SilentDrives x = new SilentDrives();
        x.set(LOW, 0);
        x.set(ROOM, 60);
        x.stream(drive, 1, 1);
        x.write(drive, 60);
        if (freeOfTwin < 60) {
            x.write(twin(drive), 60 - freeOfTwin);
        }
        return x;
    }

    @Sentence(in = "Promise 17: firstSafe", says = SAFE)
    void theLastMinuteOfTheHourCounts() {
        due("firstSafe(0), one being lent in each of the 60 minutes", lendingEachMinute(0, 60).firstSafe(0), 1);
        due("firstSafe(0), one being lent in all but the last minute", lendingEachMinute(0, 59).firstSafe(0), NONE);
        SilentDrives x = lendingEachMinute(2, 59);
        x.sell(2, 1);
        due("loudIn(2, 119)", x.loudIn(2, 119), 0);
        due("loudIn(2, 120), with the last minute of the hour 1", x.loudIn(2, 120), 1);
        due("firstSafe(0), behind the last minute of the hour 1", x.firstSafe(0), 2);
        SilentDrives y = lendingEachMinute(2, 60);
        y.sell(2, 1);
        due("firstSafe(0), no minute of the hour 1 being loud", y.firstSafe(0), 1);
    }

    @Sentence(in = "Promise 17: firstSafe", says = SAFE)
    void theFirstMinuteOfTheHourCounts() {
        SilentDrives x = holding(81, 60);
        x.sell(0, 1);
        due("loudIn(0, 60)", x.loudIn(0, 60), 0);
        due("loudIn(0, 61), with the first minute of the hour 1", x.loudIn(0, 61), 1);
        due("loudIn(0, 600), with that alone", x.loudIn(0, 600), 1);
        due("firstSafe(3), behind the hour 1", x.firstSafe(3), 2);
    }

    @Sentence(in = "Promise 17: firstSafe", says = "Returns the hour; NO_SUCH if there is no such drive;")
    void firstSafeOfNoDrive() {
        noSuchDrive("firstSafe(..)", (x, drive) -> x.firstSafe(drive));
    }

    @Sentence(in = "Promise 17: firstSafe", says = "NONE if there is none.")
    void noSafeHour() {
        due("firstSafe(0), each hour being loud", holding(81, 60).firstSafe(0), NONE);
        due("firstSafe(2), each hour being sold", soldUpTo(24).firstSafe(2), NONE);
        due("firstSafe(2), no hour being left", atMinute(5940).firstSafe(2), NONE);
    }

    // ---- 18: leastRoom

    /** Twins that are quiet in an hour, and whose first one holds so many units, none of which can be written. */
    private static SilentDrives quietIn(int hour, int held) {
        SilentDrives x = new SilentDrives();
        x.set(LOW, 0);
        x.sell(2, hour);
        x.sell(3, hour);
        x.write(2, 60 + held);
        return x;
    }

    private static final String LEAST = "Finds the least ROOM, 0 to 60, with which no drive would have an overrun in the next hours, if"
            + " only time passed.";

    @Sentence(in = "Promise 18: leastRoom", says = LEAST)
    void leastRoomFrom0To60() {
        for (int held : new int[] {0, 1, 20, 59, 60}) {
            SilentDrives x = quietIn(1, held);
            due("leastRoom(2) for " + held + " units", x.leastRoom(2), held);
            due("ROOM, as it was", x.count(12), 20);
            x.set(ROOM, held);
            due("loudIn(2, 120) with that ROOM", x.loudIn(2, 120), 0);
            if (held > 0) {
                x.set(ROOM, held - 1);
                due("loudIn(2, 120) with one fewer", x.loudIn(2, 120) > 0 ? 1 : 0, 1);
            }
        }
        due("leastRoom(2) for 61 units", quietIn(1, 61).leastRoom(2), NONE);
        due("leastRoom(10) of a new object", new SilentDrives().leastRoom(10), 0);
    }

    @Sentence(in = "Promise 18: leastRoom", says = LEAST)
    void leastRoomForEachDrive() {
        for (int drive = 0; drive < 4; drive++) {
            SilentDrives x = new SilentDrives();
            x.set(LOW, 0);
            for (int other = 0; other < 4; other++) {
                x.sell(other, 1);
                x.write(other, other == drive ? 97 : 70);
            }
            due("leastRoom(2), the drive " + drive + " holding the most", x.leastRoom(2), 37);
        }
    }

    @Sentence(in = "Promise 18: leastRoom", says = LEAST)
    void leastRoomWithWhatCanBeLent() {
        SilentDrives x = new SilentDrives();
        x.set(LOW, 0);
        x.sell(1, 1);
        x.write(0, 30);
        x.write(1, 99);
        due("leastRoom(2), 30 of 39 being lent", x.leastRoom(2), 9);
        x.write(1, 51);
        due("leastRoom(2), 30 of 90 being lent", x.leastRoom(2), 60);
        x.write(1, 1);
        due("leastRoom(2), 30 of 91 being lent", x.leastRoom(2), NONE);
    }

    @Sentence(in = "Promise 18: leastRoom", says = "`hours`: 1 to 10: so many times 60 minutes, from now on")
    void soManyTimes60Minutes() {
        SilentDrives x = quietIn(1, 9);
        due("leastRoom(1) in the minute 0, up to the minute 59", x.leastRoom(1), 0);
        due("leastRoom(2) in the minute 0", x.leastRoom(2), 9);
        x.pass(1);
        due("leastRoom(1) in the minute 1, up to the minute 60", x.leastRoom(1), 9);
        x.set(ROOM, 9);
        x.pass(118);
        due("leastRoom(1) in the minute 119, the last one of the hour", x.leastRoom(1), 9);
        x.pass(1);
        due("leastRoom(10) in the minute 120", x.leastRoom(10), 0);
        SilentDrives late = quietIn(10, 9);
        due("leastRoom(10) in the minute 0, up to the minute 599", late.leastRoom(10), 0);
        late.pass(1);
        due("leastRoom(9) in the minute 1", late.leastRoom(9), 0);
        due("leastRoom(10) in the minute 1, up to the minute 600", late.leastRoom(10), 9);
        changesNothing("leastRoom(0)", Tests::busy, y -> y.leastRoom(0), BAD_VALUE);
        changesNothing("leastRoom(11)", Tests::busy, y -> y.leastRoom(11), BAD_VALUE);
    }

    @Sentence(in = "Promise 18: leastRoom", says = "Returns the setting; BAD_VALUE if hours is out of range;")
    void leastRoomOutOfRange() {
        for (int hours : new int[] {-1, 0, 11, Integer.MIN_VALUE, Integer.MAX_VALUE}) {
            changesNothing("leastRoom(" + hours + ")", Tests::busy, x -> x.leastRoom(hours), BAD_VALUE);
        }
    }

    @Sentence(in = "Promise 18: leastRoom", says = "NONE if there is none.")
    void noRoomWouldDo() {
        SilentDrives x = quietIn(1, 61);
        due("leastRoom(2)", x.leastRoom(2), NONE);
        due("leastRoom(1), ahead of the hour", x.leastRoom(1), 0);
        due("leastRoom(10)", x.leastRoom(10), NONE);
    }
}
