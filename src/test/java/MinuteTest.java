/** The terms that promise 7 and its like stand on: the six steps of a minute, drive by drive. */
public final class MinuteTest {
    private static final Check CHECK = new Check("MinuteTest");

    public static void main(String[] args) {
        keepsAndEarns();
        keepsTheLastHour();
        streams();
        takesBack();
        takesBackWhileTheTwinIsQuiet();
        writes();
        lends();
        lendsNothing();
        theTwinAsItIsThen();
        cleansFromLowToHigh();
        cleansInQuietHours();
        finesAndCredits();
        forgetsCleaningInQuietHours();
        keepsCleaningInWhatIfs();
        cleansNoLentCells();
        CHECK.end();
    }

    /** Free, stale, lent cells and units held, as one number of four times two digits. */
    private static void cells(SilentDrives x, int drive, String when, long due) {
        long got = x.ofDrive(drive, 0);
        for (int what = 1; what < 4; what++) {
            got = got * 100 + x.ofDrive(drive, what);
        }
        CHECK.due("cells of " + drive + " " + when, got, due);
    }

    private static void keepsAndEarns() {
        SilentDrives x = new SilentDrives();
        x.sell(0, 1);
        x.sell(3, 1);
        x.sell(0, 2);
        x.pass(60);
        CHECK.due("earned before the first minute", x.count(2), 0);
        CHECK.due("quiet in minute 60", x.ofDrive(0, 4), 1);
        CHECK.due("drive 1 quiet in minute 60", x.ofDrive(1, 4), 0);
        x.pass(1);
        CHECK.due("earned with the first minute", x.count(2), 120);
        x.pass(59);
        CHECK.due("earned at the end", x.count(2), 120);
        CHECK.due("not kept yet", x.hour(0, 1), 1);
        CHECK.due("credits not yet", x.count(4), 0);
        CHECK.due("drive 3 quiet in minute 120", x.ofDrive(3, 4), 0);
        x.set(SilentDrives.PRICE, 999);
        x.set(SilentDrives.BONUS, 9);
        x.pass(1);
        CHECK.due("kept", x.hour(0, 1), 2);
        CHECK.due("kept by 3", x.hour(3, 1), 2);
        CHECK.due("credits, as BONUS tells then", x.count(4), 18);
        CHECK.due("earned, as PRICE tells then", x.count(2), 120 + 999);
        x.pass(60);
        CHECK.due("kept, too", x.hour(0, 2), 2);
        CHECK.due("credits", x.count(4), 27);
        x.pass(60);
        CHECK.due("credits once for an hour", x.count(4), 27);
    }

    private static void keepsTheLastHour() {
        SilentDrives x = new SilentDrives();
        x.sell(2, 99);
        for (int i = 0; i < 10; i++) {
            x.pass(600);
        }
        CHECK.due("hour(2, 99) at its end", x.hour(2, 99), 1);
        CHECK.due("earned", x.count(2), 60);
        CHECK.due("the hour", x.count(1), 100);
        CHECK.due("quiet in the hour 100", x.ofDrive(2, 4), 0);
        x.pass(1);
        CHECK.due("hour(2, 99) behind it", x.hour(2, 99), 2);
        CHECK.due("credits", x.count(4), 2);
        CHECK.due("earned", x.count(2), 60);
    }

    private static void streams() {
        SilentDrives x = new SilentDrives();
        x.set(SilentDrives.LOW, 0);
        x.stream(1, 60, 20);
        x.stream(3, 1, 1);
        x.pass(60);
        CHECK.due("written by 1", x.ofDrive(1, 6), 20);
        CHECK.due("written by 3", x.ofDrive(3, 6), 60);
        x.pass(1);
        CHECK.due("written by 1", x.ofDrive(1, 6), 40);
        CHECK.due("written by 3", x.ofDrive(3, 6), 60);
        CHECK.due("held by 3", x.ofDrive(3, 3), 1);
        // The minute is divided, not the time since the stream was changed.
        x.stream(1, 7, 1);
        x.pass(2);
        CHECK.due("written by 1 with minutes 61 and 62", x.ofDrive(1, 6), 40);
        x.pass(1);
        CHECK.due("written by 1 with minute 63", x.ofDrive(1, 6), 41);
    }

    private static void takesBack() {
        SilentDrives x = lentByTwin();
        cells(x, 0, "that lent 25", 60_00_20L);
        cells(x, 1, "that keeps 25", 35_00_25_00L);
        x.set(SilentDrives.LOW, 0);
        x.pass(59);
        cells(x, 1, "at the end of the hour", 35_00_25_00L);
        x.pass(1);
        cells(x, 0, "that has no free cell", 60_00_20L);
        cells(x, 1, "that still keeps 25", 35_00_25_00L);
        x.set(SilentDrives.LOW, 20);
        x.set(SilentDrives.SPEED, 10);
        x.pass(1);
        cells(x, 0, "that cleaned 10 up", 10_50_00_20L);
        x.pass(1);
        // Units come back ahead of the held ones: they take all 10 cells.
        cells(x, 0, "that took 10 back", 10_50_00_20L);
        // A drive with lent cells alone has nothing to clean up: 10 are stale now, and 35 free.
        cells(x, 1, "that gave 10 back", 35_10_15_00L);
        x.set(SilentDrives.SPEED, 20);
        x.pass(1);
        cells(x, 0, "that took 10 back again", 20_40_00_20L);
        cells(x, 1, "that gave 10 back again", 35_20_05_00L);
        x.pass(1);
        // 5 back and 15 of the 20 that are held.
        cells(x, 0, "that took 5 back", 20_40_00_05L);
        cells(x, 1, "that gave all back", 35_25_00_00L);
        CHECK.due("written", x.ofDrive(0, 6), 60 + 25 + 15);
    }

    /** Drive 0 has 60 stale cells and 20 units, drive 1 keeps 25 of its units; it is minute 61. */
    private static SilentDrives lentByTwin() {
        SilentDrives x = new SilentDrives();
        x.sell(0, 1);
        x.pass(60);
        x.write(0, 105);
        x.pass(1);
        return x;
    }

    private static void takesBackWhileTheTwinIsQuiet() {
        SilentDrives x = lentByTwin();
        x.undo();
        x.undo();
        x.undo();
        x.sell(1, 2);
        x.pass(60);
        x.write(0, 105);
        x.pass(60);
        x.set(SilentDrives.SPEED, 20);
        x.pass(2);
        CHECK.due("the twin is quiet", x.ofDrive(1, 4), 1);
        cells(x, 0, "that took back from a quiet twin", 20_40_00_20L);
        cells(x, 1, "that is quiet, with stale cells", 35_20_05_00L);
        CHECK.due("the quiet one sounded", x.ofDrive(1, 7), 0);
    }

    private static void writes() {
        SilentDrives x = new SilentDrives();
        x.set(SilentDrives.LOW, 0);
        x.write(0, 45);
        x.write(2, 100);
        x.pass(1);
        cells(x, 0, "with 45", 15_45_00_00L);
        cells(x, 2, "with 100", 60_00_40L);
        x.write(0, 20);
        x.pass(1);
        cells(x, 0, "with 65", 60_00_05L);
        CHECK.due("written by 0", x.ofDrive(0, 6), 60);
        CHECK.due("written by 2", x.ofDrive(2, 6), 60);
        CHECK.due("written by 1", x.ofDrive(1, 6), 0);
    }

    private static void lends() {
        SilentDrives x = new SilentDrives();
        x.set(SilentDrives.LOW, 0);
        x.sell(2, 1);
        x.write(3, 50);
        x.pass(60);
        x.write(2, 80);
        x.pass(1);
        cells(x, 2, "that holds ROOM", 60_00_20L);
        cells(x, 3, "that keeps nothing", 10_50_00_00L);
        x.write(2, 3);
        x.pass(1);
        cells(x, 2, "that lent those above ROOM", 60_00_20L);
        cells(x, 3, "that keeps 3", 7_50_03_00L);
        x.set(SilentDrives.ROOM, 60);
        x.write(2, 40);
        x.pass(1);
        cells(x, 2, "with a larger ROOM", 60_00_60L);
        cells(x, 3, "that keeps 3", 7_50_03_00L);
        CHECK.due("overruns so far", x.ofDrive(2, 8), 0);
        x.write(2, 9);
        x.pass(1);
        // 7 fit, so 62 are held above ROOM: an overrun that cleans up 4.
        cells(x, 2, "with a full twin", 4_56_00_62L);
        cells(x, 3, "that is full", 50_10_00L);
        CHECK.due("overruns", x.ofDrive(2, 8), 1);
        CHECK.due("written is not what was lent", x.ofDrive(2, 6), 60);
        CHECK.due("written by the twin", x.ofDrive(3, 6), 50);
        CHECK.due("another drive's cells", x.ofDrive(0, 0) + x.ofDrive(1, 0), 120);
    }

    private static void lendsNothing() {
        SilentDrives both = new SilentDrives();
        both.sell(0, 1);
        both.sell(1, 1);
        both.pass(60);
        both.write(0, 90);
        both.pass(1);
        cells(both, 0, "whose twin is quiet", 4_56_00_30L);
        cells(both, 1, "that is quiet", 60_00_00_00L);
        CHECK.due("overruns", both.ofDrive(0, 8), 1);
        SilentDrives loud = new SilentDrives();
        loud.write(0, 90);
        loud.pass(1);
        cells(loud, 0, "that is not quiet", 4_56_00_30L);
        cells(loud, 1, "of one that is not quiet", 60_00_00_00L);
        CHECK.due("overruns of one that is not quiet", loud.ofDrive(0, 8), 0);
        CHECK.due("minutes in which it sounded", loud.ofDrive(0, 7), 1);
    }

    private static void theTwinAsItIsThen() {
        // Drive 1 is quiet, and lends when drive 0 has done its minute: drive 0 has 10 free cells by then.
        SilentDrives x = new SilentDrives();
        x.set(SilentDrives.LOW, 0);
        x.sell(1, 1);
        x.pass(60);
        x.write(0, 50);
        x.write(1, 100);
        x.pass(1);
        cells(x, 1, "that could lend 10, and cleaned up", 4_56_00_30L);
        cells(x, 0, "that wrote first", 50_10_00L);
        // The other way round: drive 0 lends ahead of what drive 1 writes.
        SilentDrives y = new SilentDrives();
        y.set(SilentDrives.LOW, 0);
        y.sell(0, 1);
        y.pass(60);
        y.write(1, 50);
        y.write(0, 100);
        y.pass(1);
        cells(y, 0, "that could lend all", 60_00_20L);
        cells(y, 1, "that was lent first", 40_20_10L);
        // The lent ones come back to drive 1 in the very minute in which the cells of drive 0 change.
        SilentDrives z = new SilentDrives();
        z.sell(1, 1);
        z.pass(60);
        z.write(1, 100);
        z.pass(60);
        cells(z, 0, "that keeps 20", 40_00_20_00L);
        z.write(0, 45);
        z.pass(2);
        // Drive 0 wrote 40 first, and cleaned up 4, wrote 4 and cleaned up 4; drive 1 cleaned up 4, took 4, and so on.
        cells(z, 1, "that took 4 back", 4_56_00_20L);
        cells(z, 0, "that gave 4 back", 4_40_16_01L);
    }

    private static void cleansFromLowToHigh() {
        SilentDrives x = new SilentDrives();
        x.write(0, 40);
        x.pass(1);
        cells(x, 0, "with LOW free cells", 20_40_00_00L);
        CHECK.due("sounded with LOW free cells", x.ofDrive(0, 7), 0);
        CHECK.due("cleaning", x.ofDrive(0, 5), 0);
        x.write(0, 1);
        x.pass(1);
        cells(x, 0, "with fewer than LOW", 23_37_00_00L);
        CHECK.due("sounded", x.ofDrive(0, 7), 1);
        CHECK.due("cleaning", x.ofDrive(0, 5), 1);
        x.pass(6);
        cells(x, 0, "that cleans on above LOW", 47_13_00_00L);
        CHECK.due("cleaning below HIGH", x.ofDrive(0, 5), 1);
        x.pass(1);
        cells(x, 0, "above HIGH", 51_09_00_00L);
        CHECK.due("cleaning above HIGH", x.ofDrive(0, 5), 0);
        x.pass(5);
        cells(x, 0, "that stays as it is", 51_09_00_00L);
        CHECK.due("sounded", x.ofDrive(0, 7), 8);
        SilentDrives high = new SilentDrives();
        high.write(0, 42);
        high.pass(8);
        cells(high, 0, "with HIGH free cells", 50_10_00_00L);
        CHECK.due("cleaning with HIGH free cells", high.ofDrive(0, 5), 0);
        SilentDrives all = new SilentDrives();
        all.set(SilentDrives.HIGH, 60);
        all.set(SilentDrives.SPEED, 20);
        all.write(0, 41);
        all.pass(1);
        cells(all, 0, "with SPEED 20", 39_21_00_00L);
        all.pass(1);
        CHECK.due("cleaning with a stale cell", all.ofDrive(0, 5), 1);
        all.pass(1);
        cells(all, 0, "that cleaned the last one up", 60_00_00_00L);
        CHECK.due("cleaning without a stale cell", all.ofDrive(0, 5), 0);
        CHECK.due("sounded", all.ofDrive(0, 7), 3);
        all.set(SilentDrives.LOW, 60);
        all.pass(5);
        CHECK.due("sounded without a stale cell", all.ofDrive(0, 7), 3);
        SilentDrives low = new SilentDrives();
        low.set(SilentDrives.LOW, 60);
        low.set(SilentDrives.HIGH, 0);
        low.write(0, 3);
        low.pass(1);
        cells(low, 0, "that cleaned fewer than SPEED", 60_00_00_00L);
        low.write(0, 9);
        low.pass(1);
        CHECK.due("cleaning above HIGH 0", low.ofDrive(0, 5), 0);
        cells(low, 0, "with LOW above HIGH", 55_05_00_00L);
        low.pass(1);
        cells(low, 0, "with LOW above HIGH, a minute later", 59_01_00_00L);
    }

    private static void cleansInQuietHours() {
        SilentDrives x = new SilentDrives();
        x.sell(0, 1);
        x.sell(1, 1);
        x.set(SilentDrives.ROOM, 7);
        x.pass(60);
        x.write(0, 67);
        x.pass(3);
        cells(x, 0, "that holds ROOM", 60_00_07L);
        CHECK.due("sounded with 0 free cells, in a quiet hour", x.ofDrive(0, 7), 0);
        CHECK.due("hour(0, 1)", x.hour(0, 1), 1);
        x.write(0, 1);
        x.pass(1);
        cells(x, 0, "that holds more than ROOM", 4_56_00_08L);
        CHECK.due("sounded", x.ofDrive(0, 7), 1);
        CHECK.due("overruns", x.ofDrive(0, 8), 1);
        CHECK.due("cleaning in a quiet hour", x.ofDrive(0, 5), 0);
        CHECK.due("hour(0, 1), spoiled", x.hour(0, 1), 3);
        CHECK.due("quiet in a spoiled hour", x.ofDrive(0, 4), 1);
        x.pass(1);
        cells(x, 0, "that wrote 4 more", 60_00_04L);
        CHECK.due("sounded no more", x.ofDrive(0, 7), 1);
        x.write(0, 60);
        x.pass(2);
        CHECK.due("overruns of a spoiled hour", x.ofDrive(0, 8), 3);
        x.pass(60);
        CHECK.due("a spoiled hour stays spoiled", x.hour(0, 1), 3);
        CHECK.due("credits, from drive 1", x.count(4), 2);
        CHECK.due("earned all the same", x.count(2), 120);
    }

    private static void finesAndCredits() {
        SilentDrives x = new SilentDrives();
        for (int hour = 1; hour < 4; hour++) {
            x.sell(2, hour);
            x.sell(3, hour);
        }
        x.set(SilentDrives.ROOM, 0);
        x.set(SilentDrives.BONUS, 1);
        x.pass(121);
        CHECK.due("credits", x.count(4), 2);
        x.write(2, 72);
        x.set(SilentDrives.FINE, 7);
        x.pass(1);
        CHECK.due("credits", x.count(4), 1);
        CHECK.due("used up", x.count(5), 1);
        CHECK.due("fined with a credit", x.count(3), 0);
        x.pass(1);
        CHECK.due("credits", x.count(4), 0);
        CHECK.due("used up", x.count(5), 2);
        CHECK.due("fined with the last credit", x.count(3), 0);
        x.pass(1);
        CHECK.due("credits", x.count(4), 0);
        CHECK.due("used up", x.count(5), 2);
        CHECK.due("fined without a credit", x.count(3), 7);
        x.pass(1);
        CHECK.due("overruns", x.ofDrive(2, 8), 3);
        CHECK.due("fined", x.count(3), 7);
        x.pass(180);
        CHECK.due("kept by 2", x.ofDrive(2, 10), 2);
        CHECK.due("kept by 3", x.ofDrive(3, 10), 3);
        CHECK.due("credits", x.count(4), 3);
    }

    private static void forgetsCleaningInQuietHours() {
        SilentDrives x = new SilentDrives();
        x.sell(0, 1);
        x.pass(58);
        x.write(0, 60);
        x.pass(2);
        cells(x, 0, "that is cleaning", 8_52_00_00L);
        CHECK.due("cleaning", x.ofDrive(0, 5), 1);
        CHECK.due("quiet", x.ofDrive(0, 4), 1);
        x.pass(1);
        cells(x, 0, "that is quiet", 8_52_00_00L);
        CHECK.due("cleaning in a quiet hour", x.ofDrive(0, 5), 0);
        x.pass(59);
        CHECK.due("sounded", x.ofDrive(0, 7), 2);
        x.set(SilentDrives.LOW, 8);
        x.pass(5);
        CHECK.due("sounded behind the quiet hour, not below LOW", x.ofDrive(0, 7), 2);
    }

    private static void keepsCleaningInWhatIfs() {
        SilentDrives x = new SilentDrives();
        x.write(0, 41);
        x.pass(2);
        cells(x, 0, "above LOW, and cleaning", 27_33_00_00L);
        CHECK.due("freeIn(0, 1)", x.freeIn(0, 1), 31);
        x.pass(7);
        CHECK.due("cleaning", x.ofDrive(0, 5), 0);
        CHECK.due("undo()", x.undo(), 2);
        x.pass(1);
        cells(x, 0, "that cleans on behind undo()", 31_29_00_00L);
    }

    private static void cleansNoLentCells() {
        SilentDrives x = new SilentDrives();
        x.sell(0, 1);
        x.pass(60);
        x.write(0, 125);
        x.pass(5);
        cells(x, 1, "that keeps 45", 15_00_45_00L);
        CHECK.due("sounded without a stale cell, below LOW", x.ofDrive(1, 7), 0);
        x.write(1, 3);
        x.pass(1);
        cells(x, 1, "that cleaned its stale cells up", 15_00_45_00L);
        CHECK.due("sounded", x.ofDrive(1, 7), 1);
        CHECK.due("cleaning below HIGH without a stale cell", x.ofDrive(1, 5), 0);
    }
}
