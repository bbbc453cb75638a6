/** Promises 8 to 13: ofDrive, hour, streak, share, mean, count. */
final class OfLooks extends Tests {

    // ---- 8: ofDrive

    @Sentence(in = "Promise 8: ofDrive", says = "Returns something about a drive.")
    void eachDriveForItself() {
        SilentDrives x = new SilentDrives();
        x.set(LOW, 0);
        for (int drive = 0; drive < 4; drive++) {
            x.write(drive, 10 * drive + 10);
        }
        x.pass(1);
        for (int drive = 0; drive < 4; drive++) {
            cells("for itself", x, drive, 50 - 10 * drive, 10 * drive + 10, 0, 0);
        }
    }

    @Sentence(in = "Promise 8: ofDrive", says = "`what`: 0 free, 1 stale, 2 lent cells (those that it keeps for its twin), 3 units that"
            + " it holds,")
    void whats0To3() {
        SilentDrives x = lentByTwin();
        due("free cells of the one that lent", x.ofDrive(0, 0), 0);
        due("its stale cells", x.ofDrive(0, 1), 60);
        due("its lent cells, not those that its twin keeps", x.ofDrive(0, 2), 0);
        due("units that it holds", x.ofDrive(0, 3), 20);
        due("free cells of the twin", x.ofDrive(1, 0), 35);
        due("its stale cells", x.ofDrive(1, 1), 0);
        due("its lent cells", x.ofDrive(1, 2), 25);
        due("units that it holds, not those in lent cells", x.ofDrive(1, 3), 0);
    }

    @Sentence(in = "Promise 8: ofDrive", says = "4 whether it is quiet in the minute of now (1 or 0),")
    void what4() {
        SilentDrives x = new SilentDrives();
        x.sell(1, 1);
        x.sell(1, 99);
        for (int[] due : new int[][] {{0, 0}, {59, 0}, {60, 1}, {119, 1}, {120, 0}, {5939, 0}, {5940, 1}, {5999, 1}, {6000, 0}}) {
            passTo(x, due[0]);
            due("quiet in the minute " + due[0], x.ofDrive(1, 4), due[1]);
        }
    }

    @Sentence(in = "Promise 8: ofDrive", says = "5 whether it is cleaning,")
    void what5() {
        SilentDrives x = new SilentDrives();
        x.write(3, 41);
        due("cleaning until a minute passes", x.ofDrive(3, 5), 0);
        x.pass(1);
        due("cleaning behind the first minute, with 23 free cells", x.ofDrive(3, 5), 1);
        x.pass(6);
        due("cleaning with 47 free cells", x.ofDrive(3, 5), 1);
        x.pass(1);
        due("cleaning with 51 free cells", x.ofDrive(3, 5), 0);
        due("cleaning of another", x.ofDrive(2, 5), 0);
    }

    @Sentence(in = "Promise 8: ofDrive", says = "6 units that it wrote so far,")
    void what6() {
        SilentDrives x = new SilentDrives();
        x.write(0, 70);
        due("written until a minute passes", x.ofDrive(0, 6), 0);
        x.pass(1);
        due("written with 60 free cells", x.ofDrive(0, 6), 60);
        x.pass(1);
        due("written with 4 more", x.ofDrive(0, 6), 64);
        x.pass(600);
        due("written, nothing being held any more", x.ofDrive(0, 6), 70);
        due("written by another", x.ofDrive(1, 6), 0);
    }

    @Sentence(in = "Promise 8: ofDrive", says = "7 minutes so far in which it sounded, 8 overruns so far,")
    void whats7And8() {
        SilentDrives x = quietTwins(0, 69);
        due("minutes in which it sounded", x.ofDrive(0, 7), 1);
        due("overruns", x.ofDrive(0, 8), 1);
        x.pass(59);
        due("minutes in which it sounded, in the quiet hour", x.ofDrive(0, 7), 3);
        due("overruns", x.ofDrive(0, 8), 3);
        // Three free cells were left; from 3 up to 51 there are 12 minutes of 4 cells.
        x.pass(600);
        due("minutes in which it sounded, with those that are not quiet", x.ofDrive(0, 7), 15);
        due("overruns", x.ofDrive(0, 8), 3);
        due("overruns of the twin", x.ofDrive(1, 8), 0);
    }

    /**
     * Of the drive 0 the hours 1, 2, 4 and 5 are kept, 3 and 6 are spoiled, 7 is of now, 9 is to come; of the drive 1
     * the hours 1 to 6 are kept. It is the minute 425.
     */
    private static SilentDrives keptAndSpoiled() {
        SilentDrives x = new SilentDrives();
        for (int hour = 1; hour <= 7; hour++) {
            x.sell(0, hour);
            x.sell(1, hour);
        }
        x.sell(0, 9);
        x.giveBack(1, 7);
        x.set(ROOM, 0);
        x.pass(185);
        // 60 units fill the cells, the 61st is held above ROOM, and the twin is quiet, too: one overrun.
        x.write(0, 61);
        x.pass(180);
        // 3 cells are free: 57 units are held, 15 times more than 0.
        x.write(0, 60);
        x.pass(60);
        return x;
    }

    @Sentence(in = "Promise 8: ofDrive", says = "9 hours that are sold, with kept and spoiled ones, 10 kept hours, 11 spoiled hours,")
    void whats9To11() {
        SilentDrives x = keptAndSpoiled();
        due("hours that are sold", x.ofDrive(0, 9), 8);
        due("kept ones", x.ofDrive(0, 10), 4);
        due("spoiled ones", x.ofDrive(0, 11), 2);
        due("hours that are sold of the twin", x.ofDrive(1, 9), 6);
        due("kept ones", x.ofDrive(1, 10), 6);
        due("spoiled ones", x.ofDrive(1, 11), 0);
        due("hours that are sold of another", x.ofDrive(2, 9), 0);
        SilentDrives all = new SilentDrives();
        for (int hour = 1; hour < 100; hour++) {
            all.sell(3, hour);
        }
        due("hours that are sold, all that can be", all.ofDrive(3, 9), 99);
        passTo(all, 6000);
        due("kept ones ahead of the minute 6000", all.ofDrive(3, 10), 98);
        all.pass(1);
        due("kept ones behind it", all.ofDrive(3, 10), 99);
        due("hours that are sold", all.ofDrive(3, 9), 99);
    }

    @Sentence(in = "Promise 8: ofDrive", says = "12 and 13 the minutes and the units of its stream")
    void whats12And13() {
        SilentDrives x = new SilentDrives();
        x.stream(2, 60, 20);
        due("minutes of the stream", x.ofDrive(2, 12), 60);
        due("units of the stream", x.ofDrive(2, 13), 20);
        due("minutes of another's", x.ofDrive(3, 12), 1);
        due("units of another's", x.ofDrive(3, 13), 0);
    }

    @Sentence(in = "Promise 8: ofDrive", says = "Returns the number;")
    void ofDriveAnswersAndChangesNothing() {
        SilentDrives x = busy();
        for (int i = 0; i < 14; i++) {
            int what = i;
            changesNothing("ofDrive(3, " + what + ")", Tests::busy, y -> y.ofDrive(3, what), x.ofDrive(3, what));
        }
    }

    @Sentence(in = "Promise 8: ofDrive", says = "NO_SUCH if there is no such drive;")
    void ofNoDrive() {
        noSuchDrive("ofDrive(.., 0)", (x, drive) -> x.ofDrive(drive, 0));
        noSuchDrive("ofDrive(.., 14)", (x, drive) -> x.ofDrive(drive, 14));
    }

    @Sentence(in = "Promise 8: ofDrive", says = "BAD_VALUE if what is out of range.")
    void ofDriveOutOfRange() {
        for (int what : new int[] {-1, 14, Integer.MIN_VALUE, Integer.MAX_VALUE}) {
            changesNothing("ofDrive(0, " + what + ")", Tests::busy, x -> x.ofDrive(0, what), BAD_VALUE);
        }
    }

    // ---- 9: hour

    @Sentence(in = "Promise 9: hour", says = "Returns 0 if it is not sold, 1 if it is sold, 2 if it is kept, 3 if it is spoiled;")
    void eachStateOfAnHour() {
        SilentDrives x = keptAndSpoiled();
        same("the hours", Looks.hours(x), "hours: 0223223101" + "0".repeat(90) + " 0222222000" + "0".repeat(90)
                + (" " + "0".repeat(100)).repeat(2));
    }

    @Sentence(in = "Promise 9: hour", says = "Tells how an hour of a drive is.")
    void theHourOfNow() {
        SilentDrives x = new SilentDrives();
        x.set(ROOM, 0);
        x.sell(0, 1);
        x.sell(1, 1);
        x.pass(60);
        due("the hour of now, sold", x.hour(0, 1), 1);
        x.write(0, 61);
        x.pass(1);
        due("the hour of now, spoiled already", x.hour(0, 1), 3);
        due("the hour of now of the twin", x.hour(1, 1), 1);
        x.pass(59);
        due("the hour that has just ended", x.hour(1, 1), 1);
        x.pass(1);
        due("the hour that ended a minute ago", x.hour(1, 1), 2);
    }

    @Sentence(in = "Promise 9: hour", says = "NO_SUCH if there is no such drive;")
    void hourOfNoDrive() {
        noSuchDrive("hour(.., 1)", (x, drive) -> x.hour(drive, 1));
        noSuchDrive("hour(.., 100)", (x, drive) -> x.hour(drive, 100));
    }

    @Sentence(in = "Promise 9: hour", says = "BAD_VALUE if hour is not 0 to 99.")
    void hourOutOfRange() {
        SilentDrives x = new SilentDrives();
        x.sell(3, 99);
        due("hour(3, 0)", x.hour(3, 0), 0);
        due("hour(3, 99)", x.hour(3, 99), 1);
        for (int hour : NO_HOURS) {
            changesNothing("hour(3, " + hour + ")", Tests::busy, y -> y.hour(3, hour), BAD_VALUE);
        }
    }

    // ---- 10: streak

    private static final String STREAK = "Returns how many of the kept and spoiled hours of a drive are kept, from the latest one back"
            + " up to the first one that is spoiled (all, if none is).";

    @Sentence(in = "Promise 10: streak", says = STREAK)
    void streakBehindASpoiledHour() {
        SilentDrives x = keptAndSpoiled();
        due("streak, the latest one being spoiled", x.streak(0), 0);
        due("streak, none being spoiled: all", x.streak(1), 6);
        due("streak without an hour that was sold", x.streak(2), 0);
        // The hour 7 is kept with the minute 480; 8 is not sold; 9 is kept with the minute 600.
        passTo(x, 480);
        due("streak until the hour 7 is kept", x.streak(0), 0);
        x.pass(1);
        due("streak with the hour 7", x.streak(0), 1);
        passTo(x, 601);
        due("streak over an hour that is not sold, back up to the spoiled one", x.streak(0), 2);
        due("kept in all", x.ofDrive(0, 10), 6);
    }

    @Sentence(in = "Promise 10: streak", says = STREAK)
    void streakInASpoiledHour() {
        SilentDrives x = new SilentDrives();
        x.set(ROOM, 0);
        for (int hour = 1; hour < 4; hour++) {
            x.sell(0, hour);
            x.sell(1, hour);
        }
        x.pass(121);
        due("streak in the hour 2, which is sold", x.streak(0), 1);
        x.write(0, 61);
        x.pass(1);
        due("streak in the hour 2, spoiled now", x.streak(0), 0);
        due("streak of the twin, in the hour 2", x.streak(1), 1);
        x.pass(120);
        due("streak in the hour 4, with the hour 3", x.streak(0), 1);
        due("streak of the twin, in the hour 4", x.streak(1), 3);
    }

    @Sentence(in = "Promise 10: streak", says = STREAK)
    void streakOfTheFirstAndTheLastHour() {
        SilentDrives x = new SilentDrives();
        for (int hour = 1; hour < 100; hour++) {
            x.sell(3, hour);
        }
        due("streak ahead of all", x.streak(3), 0);
        x.pass(121);
        due("streak of the hour 1", x.streak(3), 1);
        passTo(x, 6000);
        due("streak up to the hour 98", x.streak(3), 98);
        x.pass(1);
        due("streak up to the hour 99", x.streak(3), 99);
    }

    @Sentence(in = "Promise 10: streak", says = "Returns how many; NO_SUCH if there is no such drive.")
    void streakOfNoDrive() {
        noSuchDrive("streak(..)", (x, drive) -> x.streak(drive));
    }

    // ---- 11: share

    private static final String SHARE = "Returns how many of the kept and spoiled hours of a drive are kept, as a floating number: the"
            + " bits, as Float.floatToIntBits tells them, of the double that kept hours by kept and spoiled ones give, made a float.";

    @Sentence(in = "Promise 11: share", says = SHARE)
    void fromNoneToAll() {
        SilentDrives none = quietTwins(0, 61);
        due("share of none kept by one", none.share(0), 0);
        due("share in the hour of now of the twin, which is sold", none.share(1), NONE);
        none.pass(60);
        due("share of one kept by one", none.share(1), 0x3f800000);
        SilentDrives x = keptAndSpoiled();
        due("share of 4 kept by 6", x.share(0), Float.floatToIntBits((float) (4.0 / 6.0)));
        due("share of 4 kept by 6, as its bits", x.share(0), 0x3f2aaaab);
        due("share of 6 kept by 6", x.share(1), 0x3f800000);
    }

    /** Each of the hours 1 to 99 is sold for each drive; only the first one of the drive 0 is kept, only it is spoiled of the drive 1. */
    @Sentence(in = "Promise 11: share", says = SHARE)
    void eachShareOfNinetyNine() {
        for (boolean keptFirst : new boolean[] {true, false}) {
            SilentDrives x = new SilentDrives();
            x.set(ROOM, 0);
            x.set(SPEED, 20);
            for (int hour = 1; hour < 100; hour++) {
                x.sell(0, hour);
                x.sell(1, hour);
            }
            x.pass(60);
            for (int hour = 1; hour < 100; hour++) {
                if (keptFirst == hour > 1) {
                    // More than can be free: something is held above ROOM, and the twin is quiet.
                    x.write(0, 61);
                }
                x.pass(60);
                int kept = keptFirst ? (hour > 1 ? 1 : 0) : hour - 2;
                int ended = keptFirst ? hour : hour - 1;
                // An hour is kept when a minute behind it has passed, but spoiled at once.
                if (hour > 1) {
                    due("share in the hour " + (hour + 1), x.share(0), Float.floatToIntBits((float) ((double) kept / (double) ended)));
                }
            }
            x.pass(1);
            int kept = keptFirst ? 1 : 98;
            due("kept", x.ofDrive(0, 10), kept);
            due("share of 99", x.share(0), Float.floatToIntBits((float) (kept / 99.0)));
        }
    }

    @Sentence(in = "Promise 11: share", says = "Returns the bits; NO_SUCH if there is no such drive;")
    void shareOfNoDrive() {
        noSuchDrive("share(..)", (x, drive) -> x.share(drive));
    }

    @Sentence(in = "Promise 11: share", says = "NONE if no hour is kept or spoiled.")
    void shareOfNoHour() {
        SilentDrives x = new SilentDrives();
        due("share without a sold hour", x.share(3), NONE);
        x.sell(3, 1);
        due("share of an hour to come", x.share(3), NONE);
        x.pass(119);
        due("share in the hour", x.share(3), NONE);
        x.pass(1);
        due("share behind its last minute", x.share(3), NONE);
        x.pass(1);
        due("share with the kept hour", x.share(3), 0x3f800000);
    }

    // ---- 12: mean

    private static final String MEAN = "Returns how many units a drive held in the mean behind the minutes that passed, as a floating"
            + " number: the bits, as Double.doubleToLongBits tells them, of the double that the sum of the units held behind each minute"
            + " gives, divided by the minutes.";

    @Sentence(in = "Promise 12: mean", says = MEAN)
    void whatIsHeldBehindEachMinute() {
        SilentDrives x = new SilentDrives();
        x.set(LOW, 0);
        x.write(0, 161);
        x.pass(1);
        due("mean of 101", x.mean(0), Double.doubleToLongBits(101.0));
        x.write(0, 1);
        due("mean of 101, another unit being held by now", x.mean(0), Double.doubleToLongBits(101.0));
        x.pass(1);
        due("mean of 101 and 102", x.mean(0), Double.doubleToLongBits(101.5));
        x.pass(1);
        due("mean of 101, 102 and 102", x.mean(0), Double.doubleToLongBits(305.0 / 3.0));
        due("mean of another that held nothing", x.mean(1), 0L);
        SilentDrives lent = lentByTwin();
        due("mean of one that held 20 and lent 25 in the last of 61 minutes", lent.mean(0), Double.doubleToLongBits(20.0 / 61.0));
        due("mean of its twin, which keeps 25 in lent cells", lent.mean(1), 0L);
    }

    @Sentence(in = "Promise 12: mean", says = MEAN)
    void aMeanOfEachMinute() {
        SilentDrives x = new SilentDrives();
        x.set(LOW, 0);
        x.stream(3, 60, 20);
        long sum = 0;
        for (int minute = 0; minute < 250; minute++) {
            x.pass(1);
            // 60 are written with the minutes 0, 60 and 120; 20 more are held from the minute 180 on, and 20 more from 240 on.
            sum += minute >= 240 ? 40 : minute >= 180 ? 20 : 0;
            due("mean behind the minute " + minute, x.mean(3), Double.doubleToLongBits((double) sum / (minute + 1)));
        }
    }

    @Sentence(in = "Promise 12: mean", says = MEAN)
    void aSmallAndALargeMean() {
        SilentDrives small = new SilentDrives();
        small.set(LOW, 0);
        small.set(ROOM, 0);
        small.sell(2, 1);
        small.write(2, 61);
        // The one unit that is held goes to the twin with the minute 60, for good: there is no free cell for it.
        for (int i = 0; i < 100; i++) {
            small.pass(600);
        }
        due("a small mean", small.mean(2), Double.doubleToLongBits(60.0 / 60000.0));
        SilentDrives large = full();
        large.set(LOW, 0);
        large.stream(2, 1, 20);
        long sum = 0;
        for (int minute = 1; minute <= 60000; minute++) {
            sum += 9999 - 60 + 20 * minute;
        }
        for (int i = 0; i < 100; i++) {
            large.pass(600);
        }
        due("a large mean", large.mean(2), Double.doubleToLongBits((double) sum / 60000.0));
    }

    @Sentence(in = "Promise 12: mean", says = "Returns the bits (0 if no minute passed);")
    void meanOfNoMinute() {
        SilentDrives x = new SilentDrives();
        x.write(0, 200);
        due("mean, no minute having passed", x.mean(0), 0L);
        x.pass(1);
        due("mean behind the first minute", x.mean(0), Double.doubleToLongBits(140.0));
        x.undo();
        due("mean, the minute being undone", x.mean(0), 0L);
    }

    @Sentence(in = "Promise 12: mean", says = "NO_SUCH if there is no such drive.")
    void meanOfNoDrive() {
        noSuchDrive("mean(..)", (x, drive) -> x.mean(drive));
        for (int drive : NO_DRIVES) {
            due("mean(" + drive + "), no minute having passed", new SilentDrives().mean(drive), NO_SUCH);
        }
    }

    // ---- 13: count

    @Sentence(in = "Promise 13: count", says = "Returns a number.")
    void countAnswersAndChangesNothing() {
        SilentDrives x = busy();
        for (int i = 0; i < 15; i++) {
            int what = i;
            changesNothing("count(" + what + ")", Tests::busy, y -> y.count(what), x.count(what));
        }
    }

    @Sentence(in = "Promise 13: count", says = "`what`: 0 the minute of now, 1 its hour,")
    void counts0And1() {
        SilentDrives x = new SilentDrives();
        for (int minute : new int[] {0, 1, 59, 60, 61, 119, 120, 5999, 6000, 6661}) {
            passTo(x, minute);
            due("the minute of now", x.count(0), minute);
            due("its hour", x.count(1), minute / 60);
        }
    }

    @Sentence(in = "Promise 13: count", says = "2 earned so far, 3 fined so far, 4 credits, 5 credits that were used up so far,")
    void counts2To5() {
        SilentDrives x = keptAndSpoiled();
        // 13 hours were sold and began. 8 credits by the hour 3, whose overrun used one; 10 more by the hour 6, which used 15; 2 behind it.
        due("earned", x.count(2), 60 * 13);
        due("fined", x.count(3), 0);
        due("credits", x.count(4), 4);
        due("credits used up", x.count(5), 16);
        SilentDrives y = quietTwins(0, 69);
        y.pass(1);
        due("earned", y.count(2), 120);
        due("fined for two overruns", y.count(3), 10);
        due("credits", y.count(4), 0);
        due("credits used up", y.count(5), 0);
    }

    @Sentence(in = "Promise 13: count", says = "6 to 12 the settings,")
    void counts6To12() {
        SilentDrives x = new SilentDrives();
        for (int setting = 0; setting < 7; setting++) {
            x.set(setting, setting + 1);
        }
        for (int what = 6; what <= 12; what++) {
            due("count(" + what + ")", x.count(what), what - 5);
        }
    }

    @Sentence(in = "Promise 13: count", says = "13 the length of the pad,")
    void count13() {
        SilentDrives x = new SilentDrives();
        due("the length of the empty pad", x.count(13), 0);
        for (int length = 1; length <= 80; length++) {
            x.put('t');
            due("the length of the pad", x.count(13), length);
        }
        x.put('t');
        due("the length of the full pad", x.count(13), 80);
        x.wipe();
        due("the length of the pad that was emptied", x.count(13), 0);
    }

    @Sentence(in = "Promise 13: count", says = "14 how many changes can be undone")
    void count14() {
        SilentDrives x = new SilentDrives();
        due("changes of a new object", x.count(14), 0);
        for (int i = 1; i <= 8; i++) {
            x.pass(1);
            due("changes behind " + i, x.count(14), Math.min(i, 6));
        }
        for (int i = 5; i >= 0; i--) {
            x.undo();
            due("changes behind undo()", x.count(14), i);
        }
    }

    @Sentence(in = "Promise 13: count", says = "Returns the number; BAD_VALUE if what is out of range.")
    void countOutOfRange() {
        SilentDrives x = busy();
        due("count(0)", x.count(0), 150);
        due("count(14)", x.count(14), 6);
        for (int what : new int[] {-1, 15, Integer.MIN_VALUE, Integer.MAX_VALUE}) {
            changesNothing("count(" + what + ")", Tests::busy, y -> y.count(what), BAD_VALUE);
        }
    }
}
