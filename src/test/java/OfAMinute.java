/** Terms: A minute. Each of its six steps, with its twin's cells and the money. */
final class OfAMinute extends Tests {

    @Sentence(in = "A minute", says = "When a minute passes, all of these steps are done for the drive 0, then all of them for the"
            + " drive 1, then for 2 and for 3 (the twin is as it is then):")
    void oneDriveBehindTheOther() {
        for (int loud = 0; loud < 4; loud++) {
            for (int kept = 0; kept < 4; kept++) {
                if (kept != loud) {
                    overrunBesideKeptHour(loud, kept);
                }
            }
        }
    }

    /** In the minute 120 a drive has an overrun, and another one's hour is kept: are its credits there by then? */
    private void overrunBesideKeptHour(int loud, int kept) {
        SilentDrives x = new SilentDrives();
        x.set(ROOM, 0);
        x.sell(kept, 1);
        x.sell(loud, 2);
        x.sell(twin(loud), 2);
        x.pass(120);
        x.write(loud, 61);
        x.pass(1);
        String drives = " (overrun of " + loud + ", kept hour of " + kept + ")";
        due("overruns" + drives, x.ofDrive(loud, 8), 1);
        due("fined" + drives, x.count(3), loud < kept ? 5 : 0);
        due("credits" + drives, x.count(4), loud < kept ? 2 : 1);
        due("credits used up" + drives, x.count(5), loud < kept ? 0 : 1);
    }

    @Sentence(in = "A minute", says = "(the twin is as it is then)")
    void theTwinAsItIsThen() {
        for (int even = 0; even < 4; even += 2) {
            // The odd drive lends when the even one has written, and has 10 free cells.
            SilentDrives x = new SilentDrives();
            x.set(LOW, 0);
            x.sell(even + 1, 1);
            x.pass(60);
            x.write(even, 50);
            x.write(even + 1, 100);
            x.pass(1);
            cells("that wrote first", x, even, 0, 50, 10, 0);
            cells("that could lend 10, and cleaned up", x, even + 1, 4, 56, 0, 30);
            // The even drive lends ahead of what the odd one writes.
            SilentDrives y = new SilentDrives();
            y.set(LOW, 0);
            y.sell(even, 1);
            y.pass(60);
            y.write(even + 1, 50);
            y.write(even, 100);
            y.pass(1);
            cells("that could lend all", y, even, 0, 60, 0, 20);
            cells("that was lent first", y, even + 1, 0, 40, 20, 10);
        }
        // Cells that the odd drive takes back are stale when the even one has done its minute: it cleans them up a minute later.
        SilentDrives z = new SilentDrives();
        z.sell(1, 1);
        z.pass(60);
        z.write(1, 100);
        z.pass(60);
        cells("that keeps 20", z, 0, 40, 0, 20, 0);
        z.write(0, 45);
        z.pass(2);
        // In the minute 120 drive 0 wrote 40 and cleaned 4 up, in 121 it wrote 4 and cleaned 4 up; then drive 1 took 4 back.
        cells("that gave 4 back", z, 0, 4, 40, 16, 1);
        cells("that took 4 back", z, 1, 4, 56, 0, 20);
    }

    // ---- 1

    private static final String KEPT = "Only in the first minute of an hour: if the hour ahead of it was sold for the drive, and is"
            + " not spoiled, it is kept, and there are BONUS credits more.";

    @Sentence(in = "A minute", says = KEPT)
    void keptInTheFirstMinuteOfTheNextHour() {
        for (int drive = 0; drive < 4; drive++) {
            SilentDrives x = new SilentDrives();
            x.sell(drive, 1);
            x.pass(119);
            due("the hour 1 in its last minute", x.hour(drive, 1), 1);
            x.pass(1);
            due("the hour 1 behind its last minute", x.hour(drive, 1), 1);
            due("credits", x.count(4), 0);
            x.pass(1);
            due("the hour 1 behind the first minute of the next one", x.hour(drive, 1), 2);
            due("credits", x.count(4), 2);
            x.pass(120);
            due("credits once for an hour", x.count(4), 2);
            due("kept", x.ofDrive(drive, 10), 1);
        }
    }

    @Sentence(in = "A minute", says = KEPT)
    void nothingIsAheadOfTheFirstHour() {
        SilentDrives x = new SilentDrives();
        due("pass(1)", x.pass(1), 1);
        for (int drive = 0; drive < 4; drive++) {
            due("kept by " + drive, x.ofDrive(drive, 10), 0);
            due("sold of " + drive, x.ofDrive(drive, 9), 0);
        }
        due("credits", x.count(4), 0);
        due("earned", x.count(2), 0);
    }

    @Sentence(in = "A minute", says = KEPT)
    void theLastHourIsKeptToo() {
        SilentDrives x = new SilentDrives();
        x.sell(2, 99);
        passTo(x, 6000);
        due("the hour 99 behind its last minute", x.hour(2, 99), 1);
        x.pass(1);
        due("the hour 99 behind the minute 6000", x.hour(2, 99), 2);
        due("credits", x.count(4), 2);
        x.pass(600);
        due("credits of later hours", x.count(4), 2);
    }

    @Sentence(in = "A minute", says = KEPT)
    void hoursInARowAreKeptOneByOne() {
        SilentDrives x = new SilentDrives();
        x.sell(0, 1);
        x.sell(0, 2);
        x.pass(121);
        due("the hour 1", x.hour(0, 1), 2);
        due("the hour 2", x.hour(0, 2), 1);
        due("credits", x.count(4), 2);
        x.pass(60);
        due("the hour 2", x.hour(0, 2), 2);
        due("the hour 3, which is not sold", x.hour(0, 3), 0);
        due("credits", x.count(4), 4);
    }

    @Sentence(in = "A minute", says = KEPT)
    void spoiledHoursAreNotKept() {
        SilentDrives x = quietTwins(0, 61);
        x.pass(60);
        due("the spoiled hour 1", x.hour(0, 1), 3);
        due("kept", x.ofDrive(0, 10), 0);
        due("the hour 1 of the twin", x.hour(1, 1), 2);
        due("credits, for the twin alone", x.count(4), 2);
    }

    @Sentence(in = "A minute", says = KEPT)
    void fromNoBonusToTheLargest() {
        for (int bonus : new int[] {0, 9}) {
            SilentDrives x = new SilentDrives();
            x.sell(1, 1);
            x.pass(120);
            x.set(BONUS, bonus);
            x.pass(1);
            due("kept with BONUS " + bonus, x.hour(1, 1), 2);
            due("credits with BONUS " + bonus, x.count(4), bonus);
        }
    }

    @Sentence(in = "A minute", says = "If this hour is sold for the drive, PRICE is earned.")
    void earnedInTheFirstMinute() {
        for (int drive = 0; drive < 4; drive++) {
            SilentDrives x = new SilentDrives();
            x.sell(drive, 1);
            x.pass(60);
            due("earned ahead of the first minute", x.count(2), 0);
            x.pass(1);
            due("earned with the first minute", x.count(2), 60);
            x.pass(120);
            due("earned once for an hour", x.count(2), 60);
        }
    }

    @Sentence(in = "A minute", says = "If this hour is sold for the drive, PRICE is earned.")
    void fromNoPriceToTheLargest() {
        SilentDrives x = new SilentDrives();
        x.sell(0, 1);
        x.sell(3, 1);
        x.sell(3, 2);
        x.set(PRICE, 0);
        x.pass(61);
        due("earned with PRICE 0", x.count(2), 0);
        x.set(PRICE, 999);
        x.pass(59);
        due("earned, PRICE being changed behind the first minute", x.count(2), 0);
        x.pass(1);
        due("earned with PRICE 999", x.count(2), 999);
    }

    @Sentence(in = "A minute", says = "If this hour is sold for the drive, PRICE is earned.")
    void theLastHourIsEarnedToo() {
        SilentDrives x = new SilentDrives();
        x.sell(1, 99);
        passTo(x, 5940);
        due("earned ahead of the hour 99", x.count(2), 0);
        x.pass(1);
        due("earned with the hour 99", x.count(2), 60);
        x.pass(120);
        due("earned with the hours 100 and 101", x.count(2), 60);
    }

    // ---- 2

    private static final String STREAM = "If the minute can be divided by the minutes of its stream, the units of its stream come,"
            + " and are held.";

    @Sentence(in = "A minute", says = STREAM)
    void streamsOfEachLength() {
        for (int every : new int[] {1, 2, 7, 59, 60}) {
            SilentDrives x = new SilentDrives();
            x.set(LOW, 0);
            x.stream(1, every, 1);
            x.pass(1);
            due("units of the minute 0, every " + every, x.ofDrive(1, 6), 1);
            if (every > 1) {
                x.pass(every - 1);
                due("units up to the minute " + (every - 1), x.ofDrive(1, 6), 1);
                x.pass(1);
            } else {
                x.pass(1);
            }
            due("units with the minute " + every, x.ofDrive(1, 6), 2);
        }
    }

    @Sentence(in = "A minute", says = STREAM)
    void theMinuteIsDividedNotTheTimeSince() {
        SilentDrives x = atMinute(61);
        x.stream(2, 60, 20);
        x.pass(59);
        due("units of the minutes 61 to 119", x.ofDrive(2, 6), 0);
        x.pass(1);
        due("units of the minute 120", x.ofDrive(2, 6), 20);
    }

    @Sentence(in = "A minute", says = STREAM)
    void fromNoUnitToTwenty() {
        SilentDrives x = new SilentDrives();
        x.set(LOW, 0);
        x.stream(0, 1, 0);
        x.stream(3, 1, 20);
        x.pass(3);
        cells("with a stream of 0 units", x, 0, 60, 0, 0, 0);
        cells("with a stream of 20 units", x, 3, 0, 60, 0, 0);
        x.pass(1);
        cells("with a stream of 20 units that are held", x, 3, 0, 60, 0, 20);
    }

    @Sentence(in = "A minute", says = STREAM)
    void streamsGoOnInQuietHours() {
        SilentDrives x = new SilentDrives();
        x.sell(0, 1);
        x.pass(60);
        x.stream(0, 30, 3);
        x.pass(1);
        cells("in a quiet hour, with the minute 60", x, 0, 57, 3, 0, 0);
        x.pass(30);
        cells("in a quiet hour, with the minute 90", x, 0, 54, 6, 0, 0);
    }

    // ---- 3

    private static final String TAKES = "A drive that is not quiet takes units back: as many as there are lent cells of its twin, but"
            + " not more than its own free cells.";

    /** The drive 0 has so many free cells in the minute 121 (as SPEED tells), and its twin keeps 10; the minute has passed. */
    private static SilentDrives takesBackInto(int free) {
        SilentDrives x = new SilentDrives();
        x.sell(0, 1);
        x.pass(60);
        x.write(0, 90);
        x.pass(60);
        x.set(SPEED, free);
        x.pass(2);
        return x;
    }

    @Sentence(in = "A minute", says = TAKES)
    void takesBackAsManyAsFit() {
        SilentDrives fewer = takesBackInto(9);
        cells("that took 9 of 10 back", fewer, 0, 9, 51, 0, 20);
        cells("that still keeps one", fewer, 1, 50, 9, 1, 0);
        SilentDrives all = takesBackInto(10);
        cells("that took 10 of 10 back", all, 0, 10, 50, 0, 20);
        cells("that keeps none", all, 1, 50, 10, 0, 0);
        SilentDrives more = takesBackInto(11);
        cells("that took 10 back and wrote one that it held", more, 0, 11, 49, 0, 19);
        cells("that keeps none", more, 1, 50, 10, 0, 0);
    }

    @Sentence(in = "A minute", says = TAKES)
    void takesNothingBackWithoutAFreeCell() {
        SilentDrives x = lentByTwin();
        x.set(LOW, 0);
        x.pass(600);
        cells("that has no free cell", x, 0, 0, 60, 0, 20);
        cells("that keeps 25 for good", x, 1, 35, 0, 25, 0);
    }

    @Sentence(in = "A minute", says = TAKES)
    void takesNothingBackWhileItIsQuiet() {
        SilentDrives x = new SilentDrives();
        x.sell(0, 1);
        x.pass(60);
        x.set(LOW, 0);
        x.set(ROOM, 5);
        x.write(0, 75);
        x.write(1, 50);
        x.pass(1);
        cells("that lent 10", x, 0, 0, 60, 0, 5);
        cells("that is full with 10 of them", x, 1, 0, 50, 10, 0);
        x.set(ROOM, 4);
        x.set(SPEED, 20);
        x.pass(59);
        // One overrun cleaned 20 up; 5 were written.
        cells("that has 15 free cells and is quiet", x, 0, 15, 45, 0, 0);
        cells("that still keeps 10", x, 1, 0, 50, 10, 0);
        x.pass(1);
        cells("that took 10 back in the first minute that is not quiet", x, 0, 5, 55, 0, 0);
        cells("that gave 10 back", x, 1, 0, 60, 0, 0);
    }

    @Sentence(in = "A minute", says = TAKES)
    void takesBackFromAQuietTwin() {
        SilentDrives x = new SilentDrives();
        x.sell(0, 1);
        x.sell(1, 2);
        x.pass(60);
        x.write(0, 105);
        x.pass(60);
        x.set(SPEED, 20);
        x.pass(2);
        due("the twin is quiet", x.ofDrive(1, 4), 1);
        cells("that took 20 back", x, 0, 20, 40, 0, 20);
        cells("that is quiet, with stale cells", x, 1, 35, 20, 5, 0);
        due("the quiet one sounded", x.ofDrive(1, 7), 0);
    }

    @Sentence(in = "A minute", says = "These lent cells are stale then, and the drive writes as many units.")
    void takenBackUnitsAreWritten() {
        SilentDrives x = takesBackInto(9);
        due("written by the one that took 9 back", x.ofDrive(0, 6), 69);
        due("written by its twin", x.ofDrive(1, 6), 0);
        SilentDrives y = takesBackInto(20);
        // 10 come back, and 10 of the 20 that are held.
        due("written by the one that took 10 back", y.ofDrive(0, 6), 80);
        cells("that took 10 back", y, 0, 20, 40, 0, 10);
        cells("that gave 10 back", y, 1, 50, 10, 0, 0);
    }

    // ---- 4

    @Sentence(in = "A minute", says = "The drive writes the units that it holds, but not more than its free cells.")
    void writesAsManyAsFit() {
        for (int units : new int[] {1, 19, 20, 21, 200}) {
            SilentDrives x = new SilentDrives();
            x.set(LOW, 0);
            x.write(2, 40);
            x.pass(1);
            x.write(2, units);
            x.pass(1);
            int fitting = Math.min(units, 20);
            cells("behind " + units + " on 20 free cells", x, 2, 20 - fitting, 40 + fitting, 0, units - fitting);
            due("written", x.ofDrive(2, 6), 40 + fitting);
        }
        SilentDrives none = new SilentDrives();
        none.pass(1);
        cells("that holds nothing", none, 2, 60, 0, 0, 0);
    }

    @Sentence(in = "A minute", says = "The drive writes the units that it holds, but not more than its free cells.")
    void aQuietDriveWritesToo() {
        SilentDrives x = quietTwins(1, 61);
        cells("that is quiet and wrote 60 of 61", x, 0, 0, 60, 0, 1);
        x.write(1, 60);
        x.pass(1);
        cells("that is quiet and wrote 60 of 60", x, 1, 0, 60, 0, 0);
    }

    // ---- 5

    private static final String LENDS = "A drive that is quiet, holds more than ROOM units, and whose twin is not quiet, lends those"
            + " above ROOM, but not more than the free cells of its twin:";

    @Sentence(in = "A minute", says = LENDS)
    void lendsThoseAboveRoom() {
        for (int room : new int[] {0, 20, 60}) {
            for (int above = -1; above <= 2; above++) {
                if (room + above >= 0) {
                    SilentDrives x = new SilentDrives();
                    x.sell(2, 1);
                    x.set(ROOM, room);
                    x.pass(60);
                    x.write(2, 60 + room + above);
                    x.pass(1);
                    int lent = Math.max(above, 0);
                    cells("that held ROOM " + room + " and " + above + " more", x, 2, 0, 60, 0, room + above - lent);
                    cells("that keeps those above ROOM", x, 3, 60 - lent, 0, lent, 0);
                }
            }
        }
    }

    @Sentence(in = "A minute", says = LENDS)
    void lendsAsManyAsFit() {
        for (int free : new int[] {0, 1, 4, 5, 6}) {
            SilentDrives x = new SilentDrives();
            x.set(LOW, 0);
            x.sell(0, 1);
            x.write(1, 60 - free);
            x.pass(60);
            x.write(0, 85);
            x.pass(1);
            int lent = Math.min(free, 5);
            int cleaned = lent < 5 ? 4 : 0;
            cells("that had 5 above ROOM", x, 0, cleaned, 60 - cleaned, 0, 25 - lent);
            cells("that had " + free + " free cells", x, 1, free - lent, 60 - free, lent, 0);
            due("overruns with " + free + " free cells of the twin", x.ofDrive(0, 8), lent < 5 ? 1 : 0);
        }
    }

    @Sentence(in = "A minute", says = LENDS)
    void lendsNothingToAQuietTwin() {
        SilentDrives x = quietTwins(20, 81);
        cells("whose twin is quiet", x, 0, 4, 56, 0, 21);
        cells("that is quiet", x, 1, 60, 0, 0, 0);
        due("overruns", x.ofDrive(0, 8), 1);
    }

    @Sentence(in = "A minute", says = LENDS)
    void lendsNothingIfItIsNotQuiet() {
        SilentDrives x = new SilentDrives();
        x.write(0, 90);
        x.pass(1);
        cells("that is not quiet", x, 0, 4, 56, 0, 30);
        cells("of one that is not quiet", x, 1, 60, 0, 0, 0);
        // In the last minute ahead of the quiet hour it lends nothing, in its first one it does, behind its last one it does not.
        SilentDrives y = new SilentDrives();
        y.set(LOW, 0);
        y.sell(0, 1);
        y.pass(59);
        y.write(0, 90);
        y.pass(1);
        cells("ahead of the quiet hour", y, 1, 60, 0, 0, 0);
        y.pass(1);
        cells("with the first quiet minute", y, 1, 50, 0, 10, 0);
        y.pass(58);
        y.write(0, 1);
        y.pass(1);
        cells("with the last quiet minute", y, 1, 49, 0, 11, 0);
        y.write(0, 1);
        y.pass(1);
        cells("behind it", y, 1, 49, 0, 11, 0);
        cells("behind its quiet hour", y, 0, 0, 60, 0, 21);
    }

    @Sentence(in = "A minute", says = "so many free cells of the twin are lent then, and the drive holds so many units fewer.")
    void lentCellsAreTheTwins() {
        SilentDrives x = lentByTwin();
        cells("that lent 25", x, 0, 0, 60, 0, 20);
        cells("that keeps 25", x, 1, 35, 0, 25, 0);
        due("written by the one that lent", x.ofDrive(0, 6), 60);
        due("written by its twin", x.ofDrive(1, 6), 0);
        x.write(0, 35);
        x.pass(1);
        cells("that lent 35 more", x, 0, 0, 60, 0, 20);
        cells("that keeps 60, all that it has", x, 1, 0, 0, 60, 0);
        x.write(1, 1);
        x.pass(1);
        cells("that has no cell of its own to write", x, 1, 0, 0, 60, 1);
    }

    // ---- 6

    private static final String WANTS = "A drive that is not quiet wants to clean up if it was cleaning behind the minute ahead, or"
            + " has fewer than LOW free cells; one that is quiet, if it holds more than ROOM units.";

    @Sentence(in = "A minute", says = WANTS)
    void cleansUpBelowLow() {
        for (int low : new int[] {0, 1, 20, 59, 60}) {
            for (int free = Math.max(low - 1, 0); free <= Math.min(low + 1, 59); free++) {
                SilentDrives x = new SilentDrives();
                x.set(LOW, low);
                x.write(0, 60 - free);
                x.pass(1);
                due("sounded with LOW " + low + " and " + free + " free cells", x.ofDrive(0, 7), free < low ? 1 : 0);
            }
        }
    }

    @Sentence(in = "A minute", says = WANTS)
    void cleansOnAboveLow() {
        SilentDrives x = new SilentDrives();
        x.write(0, 41);
        x.pass(1);
        cells("that had fewer than LOW", x, 0, 23, 37, 0, 0);
        x.pass(6);
        cells("that cleans on above LOW", x, 0, 47, 13, 0, 0);
        x.pass(1);
        cells("that reached HIGH", x, 0, 51, 9, 0, 0);
        x.pass(600);
        cells("that does not clean on above HIGH", x, 0, 51, 9, 0, 0);
        due("sounded", x.ofDrive(0, 7), 8);
    }

    @Sentence(in = "A minute", says = WANTS)
    void aQuietOneCleansUpAboveRoom() {
        for (int room : new int[] {0, 7, 60}) {
            SilentDrives x = quietTwins(room, 60 + room);
            due("sounded, holding ROOM " + room + ", with no free cell", x.ofDrive(0, 7), 0);
            x.write(0, 1);
            x.pass(1);
            due("sounded, holding one more", x.ofDrive(0, 7), 1);
            cells("that cleaned 4 up", x, 0, 4, 56, 0, room + 1);
        }
    }

    @Sentence(in = "A minute", says = WANTS)
    void aQuietOneDoesNotCleanOn() {
        SilentDrives x = new SilentDrives();
        x.sell(0, 1);
        x.pass(58);
        x.write(0, 60);
        x.pass(2);
        cells("that is cleaning in the last minute ahead", x, 0, 8, 52, 0, 0);
        due("cleaning", x.ofDrive(0, 5), 1);
        x.pass(60);
        cells("that was quiet for an hour", x, 0, 8, 52, 0, 0);
        x.set(LOW, 8);
        x.pass(5);
        cells("that has not gone on behind the hour, not being below LOW", x, 0, 8, 52, 0, 0);
    }

    private static final String CLEANS = "If it wants to, and has stale cells, it cleans up as many of them as SPEED tells, or all,"
            + " and sounds.";

    @Sentence(in = "A minute", says = CLEANS)
    void cleansUpAsManyAsSpeedTells() {
        for (int speed : new int[] {1, 4, 20}) {
            for (int stale = Math.max(speed - 1, 1); stale <= speed + 1; stale++) {
                SilentDrives x = new SilentDrives();
                x.set(LOW, 60);
                x.set(SPEED, speed);
                x.write(0, stale);
                x.pass(1);
                int left = Math.max(stale - speed, 0);
                cells("with SPEED " + speed + " and " + stale + " stale cells", x, 0, 60 - left, left, 0, 0);
                due("sounded", x.ofDrive(0, 7), 1);
            }
        }
    }

    @Sentence(in = "A minute", says = CLEANS)
    void soundsNotWithoutAStaleCell() {
        SilentDrives x = new SilentDrives();
        x.sell(0, 1);
        x.pass(60);
        x.write(0, 140);
        x.pass(1);
        cells("that keeps 60", x, 1, 0, 0, 60, 0);
        due("sounded below LOW, with lent cells alone", x.ofDrive(1, 7), 0);
        // A quiet one above ROOM without a stale cell: all its cells are lent.
        SilentDrives y = new SilentDrives();
        y.set(LOW, 0);
        y.set(ROOM, 0);
        y.sell(0, 1);
        y.sell(1, 2);
        y.pass(60);
        y.write(0, 120);
        y.pass(60);
        y.write(1, 1);
        y.pass(1);
        cells("that is quiet and holds more than ROOM", y, 1, 0, 0, 60, 1);
        due("sounded", y.ofDrive(1, 7), 0);
        due("overruns", y.ofDrive(1, 8), 0);
        due("the hour 2", y.hour(1, 2), 1);
    }

    private static final String OVERRUN = "If it sounds and is quiet, this is an overrun: the hour is spoiled, and one credit is used"
            + " up, or, if there is none, FINE is fined.";

    @Sentence(in = "A minute", says = OVERRUN)
    void anOverrunInTheFirstMinute() {
        SilentDrives x = quietTwins(0, 61);
        due("overruns", x.ofDrive(0, 8), 1);
        due("the hour 1", x.hour(0, 1), 3);
        due("the hour 1 of the twin", x.hour(1, 1), 1);
        due("fined", x.count(3), 5);
        due("credits used up", x.count(5), 0);
    }

    @Sentence(in = "A minute", says = OVERRUN)
    void anOverrunInTheLastMinute() {
        SilentDrives x = new SilentDrives();
        x.set(ROOM, 0);
        x.sell(0, 1);
        x.sell(1, 1);
        x.pass(119);
        x.write(0, 61);
        x.pass(1);
        due("overruns", x.ofDrive(0, 8), 1);
        due("the hour 1", x.hour(0, 1), 3);
        x.pass(1);
        due("the hour 1 in the next one", x.hour(0, 1), 3);
    }

    @Sentence(in = "A minute", says = OVERRUN)
    void noOverrunBesideTheHour() {
        for (int minute : new int[] {59, 120}) {
            SilentDrives x = new SilentDrives();
            x.set(ROOM, 0);
            x.sell(0, 1);
            x.sell(1, 1);
            x.pass(minute);
            x.write(0, 61);
            x.pass(1);
            due("sounded in the minute " + minute, x.ofDrive(0, 7), 1);
            due("overruns in the minute " + minute, x.ofDrive(0, 8), 0);
            due("fined in the minute " + minute, x.count(3), 0);
            x.pass(62);
            due("the hour 1", x.hour(0, 1), 2);
        }
    }

    @Sentence(in = "A minute", says = OVERRUN)
    void eachMinuteOfASpoiledHourCounts() {
        SilentDrives x = quietTwins(0, 69);
        x.pass(59);
        // 9, 5 and 1 were held above ROOM.
        due("overruns", x.ofDrive(0, 8), 3);
        due("fined", x.count(3), 15);
        due("spoiled hours", x.ofDrive(0, 11), 1);
    }

    @Sentence(in = "A minute", says = OVERRUN)
    void theLastCreditAndNone() {
        SilentDrives x = new SilentDrives();
        for (int hour = 1; hour < 4; hour++) {
            x.sell(2, hour);
            x.sell(3, hour);
        }
        x.set(ROOM, 0);
        x.set(BONUS, 1);
        x.pass(121);
        x.write(2, 72);
        int[][] due = {{2, 0, 0, 0}, {1, 1, 0, 1}, {0, 2, 0, 2}, {0, 2, 5, 3}, {0, 2, 5, 3}};
        for (int minute = 0; minute < due.length; minute++) {
            due("credits behind " + minute + " minutes", x.count(4), due[minute][0]);
            due("credits used up", x.count(5), due[minute][1]);
            due("fined", x.count(3), due[minute][2]);
            due("overruns", x.ofDrive(2, 8), due[minute][3]);
            x.pass(1);
        }
    }

    @Sentence(in = "A minute", says = OVERRUN)
    void oneCreditForTwoDrives() {
        SilentDrives x = new SilentDrives();
        x.set(ROOM, 0);
        x.set(BONUS, 1);
        x.sell(0, 1);
        x.sell(0, 2);
        x.sell(1, 2);
        x.pass(121);
        due("credits", x.count(4), 1);
        x.write(0, 61);
        x.write(1, 61);
        x.pass(1);
        due("overruns", x.ofDrive(0, 8) * 10 + x.ofDrive(1, 8), 11);
        due("credits", x.count(4), 0);
        due("credits used up", x.count(5), 1);
        due("fined", x.count(3), 5);
    }

    @Sentence(in = "A minute", says = OVERRUN)
    void fromNoFineToTheLargest() {
        for (int fine : new int[] {0, 99}) {
            SilentDrives x = new SilentDrives();
            x.set(FINE, fine);
            x.set(ROOM, 0);
            x.sell(0, 1);
            x.sell(1, 1);
            x.pass(60);
            x.write(0, 61);
            x.pass(1);
            due("fined with FINE " + fine, x.count(3), fine);
            due("spoiled with FINE " + fine, x.hour(0, 1), 3);
            due("credits used up", x.count(5), 0);
        }
    }

    private static final String CLEANING = "It is cleaning behind this minute if it sounded, is not quiet, and has fewer than HIGH"
            + " free cells and still a stale one; otherwise it is not.";

    @Sentence(in = "A minute", says = CLEANING)
    void cleaningBelowHigh() {
        for (int high : new int[] {1, 30, 50, 59}) {
            for (int free = Math.max(high - 1, 1); free <= Math.min(high + 1, 59); free++) {
                SilentDrives x = new SilentDrives();
                x.set(LOW, 60);
                x.set(HIGH, high);
                x.set(SPEED, 1);
                // One of the cells that are written is cleaned up at once.
                x.write(0, 61 - free);
                x.pass(1);
                cells("behind " + (61 - free) + " units", x, 0, free, 60 - free, 0, 0);
                due("cleaning with HIGH " + high + " and " + free + " free cells", x.ofDrive(0, 5), free < high ? 1 : 0);
            }
        }
    }

    @Sentence(in = "A minute", says = CLEANING)
    void cleaningNeverWithHigh0() {
        SilentDrives x = new SilentDrives();
        x.set(HIGH, 0);
        x.write(0, 60);
        x.pass(1);
        cells("that is below LOW", x, 0, 4, 56, 0, 0);
        due("cleaning", x.ofDrive(0, 5), 0);
        x.pass(4);
        cells("that cleans up to LOW alone", x, 0, 20, 40, 0, 0);
        x.pass(1);
        cells("that has LOW free cells", x, 0, 20, 40, 0, 0);
    }

    @Sentence(in = "A minute", says = CLEANING)
    void cleaningOnlyWithAStaleCell() {
        for (int stale = 4; stale <= 5; stale++) {
            SilentDrives x = new SilentDrives();
            x.set(LOW, 60);
            x.set(HIGH, 60);
            x.write(0, stale);
            x.pass(1);
            due("cleaning with " + (stale - 4) + " stale cells", x.ofDrive(0, 5), stale - 4);
            // The twin keeps 45, so few cells are free however few are stale.
            SilentDrives y = new SilentDrives();
            y.sell(0, 1);
            y.pass(60);
            y.write(0, 125);
            y.pass(1);
            y.write(1, stale);
            y.pass(1);
            cells("that cleaned 4 up", y, 1, 19 - stale, stale - 4, 45, 0);
            due("cleaning below HIGH with " + (stale - 4) + " stale cells", y.ofDrive(1, 5), stale - 4);
        }
    }

    @Sentence(in = "A minute", says = CLEANING)
    void notCleaningIfItDidNotSound() {
        SilentDrives x = new SilentDrives();
        x.write(0, 40);
        x.pass(1);
        cells("with LOW free cells, below HIGH, and stale ones", x, 0, 20, 40, 0, 0);
        due("cleaning", x.ofDrive(0, 5), 0);
    }

    @Sentence(in = "A minute", says = CLEANING)
    void notCleaningIfItIsQuiet() {
        SilentDrives x = quietTwins(0, 61);
        due("sounded", x.ofDrive(0, 7), 1);
        cells("that is quiet, below HIGH, and has stale cells", x, 0, 4, 56, 0, 1);
        due("cleaning", x.ofDrive(0, 5), 0);
        SilentDrives y = new SilentDrives();
        y.sell(0, 1);
        y.pass(59);
        y.write(0, 60);
        y.pass(1);
        due("cleaning in the last minute ahead of a quiet hour", y.ofDrive(0, 5), 1);
        y.pass(1);
        due("cleaning in its first minute", y.ofDrive(0, 5), 0);
    }

    @Sentence(in = "A minute", says = CLEANING)
    void notCleaningForWhatItsTwinDoesLater() {
        SilentDrives x = new SilentDrives();
        x.set(LOW, 60);
        x.set(SPEED, 1);
        x.sell(1, 1);
        x.pass(60);
        x.write(0, 11);
        x.write(1, 85);
        x.pass(1);
        // It had HIGH free cells; then its twin lent 5.
        cells("that cleaned up to HIGH ahead of its twin", x, 0, 45, 10, 5, 0);
        due("cleaning", x.ofDrive(0, 5), 0);
        x.set(LOW, 0);
        x.pass(1);
        due("sounded a minute later", x.ofDrive(0, 7), 1);
    }

    @Sentence(in = "A minute", says = "Behind all this the minute of now is one more.")
    void theMinuteOfNowIsOneMore() {
        SilentDrives x = new SilentDrives();
        x.sell(3, 1);
        x.pass(59);
        x.write(3, 41);
        due("pass(1)", x.pass(1), 60);
        // What passed was the minute 59, which is not quiet, for the last drive, too.
        due("sounded", x.ofDrive(3, 7), 1);
        due("overruns", x.ofDrive(3, 8), 0);
        due("the minute of now", x.count(0), 60);
        due("quiet in it", x.ofDrive(3, 4), 1);
        due("earned", x.count(2), 0);
    }
}
