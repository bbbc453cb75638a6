/** Promises 8 to 13: ofDrive, hour, streak, share, mean, count. */
public final class LooksTest {
    private static final Check CHECK = new Check("LooksTest");
    private static final int[] NO_DRIVES = {-1, 4, Integer.MIN_VALUE, Integer.MAX_VALUE};

    public static void main(String[] args) {
        SilentDrives x = keptAndSpoiled();
        ofDrive(x);
        hour(x);
        streak(x);
        share(x);
        mean();
        count(x);
        CHECK.end();
    }

    /** Drive 0: the hours 1, 2, 4, 5 are kept, 3 and 6 spoiled, 7 is sold and of now, 9 is sold. It is minute 425. */
    private static SilentDrives keptAndSpoiled() {
        SilentDrives x = new SilentDrives();
        for (int hour = 1; hour <= 7; hour++) {
            x.sell(0, hour);
            x.sell(1, hour);
        }
        x.sell(0, 9);
        x.giveBack(1, 7);
        x.set(SilentDrives.ROOM, 0);
        x.pass(185);
        // 60 units fill the cells, the 61st is held above ROOM, and the twin is quiet, too: one overrun.
        x.write(0, 61);
        x.pass(180);
        // 3 cells are free (64 came to be free, 61 were filled): 57 are held, 15 times more than 0.
        x.write(0, 60);
        x.pass(60);
        return x;
    }

    private static void ofDrive(SilentDrives x) {
        CHECK.due("free", x.ofDrive(0, 0), 3);
        CHECK.due("stale", x.ofDrive(0, 1), 57);
        CHECK.due("lent", x.ofDrive(0, 2), 0);
        CHECK.due("lent by the twin", x.ofDrive(1, 2), 0);
        CHECK.due("held", x.ofDrive(0, 3), 0);
        CHECK.due("quiet", x.ofDrive(0, 4), 1);
        CHECK.due("quiet twin", x.ofDrive(1, 4), 0);
        CHECK.due("cleaning", x.ofDrive(0, 5), 0);
        CHECK.due("written", x.ofDrive(0, 6), 121);
        CHECK.due("sounded", x.ofDrive(0, 7), 16);
        CHECK.due("overruns", x.ofDrive(0, 8), 16);
        CHECK.due("sold", x.ofDrive(0, 9), 8);
        CHECK.due("kept", x.ofDrive(0, 10), 4);
        CHECK.due("spoiled", x.ofDrive(0, 11), 2);
        CHECK.due("sold of the twin", x.ofDrive(1, 9), 6);
        CHECK.due("kept of the twin", x.ofDrive(1, 10), 6);
        CHECK.due("spoiled of the twin", x.ofDrive(1, 11), 0);
        for (int drive : NO_DRIVES) {
            CHECK.error(x, "ofDrive(" + drive + ", 0)", () -> x.ofDrive(drive, 0), -1);
            CHECK.error(x, "ofDrive(" + drive + ", 14)", () -> x.ofDrive(drive, 14), -1);
        }
        for (int what : new int[] {-1, 14, Integer.MIN_VALUE, Integer.MAX_VALUE}) {
            CHECK.error(x, "ofDrive(0, " + what + ")", () -> x.ofDrive(0, what), -2);
        }
    }

    private static void hour(SilentDrives x) {
        int[] due = {0, 2, 2, 3, 2, 2, 3, 1, 0, 1, 0};
        for (int hour = 0; hour < due.length; hour++) {
            CHECK.due("hour(0, " + hour + ")", x.hour(0, hour), due[hour]);
        }
        CHECK.due("hour(1, 3)", x.hour(1, 3), 2);
        CHECK.due("hour(1, 7)", x.hour(1, 7), 0);
        CHECK.due("hour(2, 3)", x.hour(2, 3), 0);
        CHECK.due("hour(0, 99)", x.hour(0, 99), 0);
        for (int drive : NO_DRIVES) {
            CHECK.error(x, "hour(" + drive + ", 0)", () -> x.hour(drive, 0), -1);
            CHECK.error(x, "hour(" + drive + ", 100)", () -> x.hour(drive, 100), -1);
        }
        for (int hour : new int[] {-1, 100, Integer.MIN_VALUE, Integer.MAX_VALUE}) {
            CHECK.error(x, "hour(0, " + hour + ")", () -> x.hour(0, hour), -2);
        }
    }

    private static void streak(SilentDrives x) {
        CHECK.due("streak behind a spoiled hour", x.streak(0), 0);
        CHECK.due("streak without a spoiled one", x.streak(1), 6);
        CHECK.due("streak without any", x.streak(2), 0);
        for (int drive : NO_DRIVES) {
            CHECK.error(x, "streak(" + drive + ")", () -> x.streak(drive), -1);
        }
        SilentDrives before = new SilentDrives();
        for (int hour : new int[] {1, 2, 4, 6}) {
            before.sell(0, hour);
        }
        before.set(SilentDrives.ROOM, 60);
        before.set(SilentDrives.LOW, 0);
        // The twin has no free cell, so 61 units are held above ROOM 60.
        before.write(1, 60);
        before.pass(65);
        before.write(0, 121);
        before.pass(1);
        CHECK.due("hour(0, 1), spoiled while it lasts", before.hour(0, 1), 3);
        CHECK.due("streak in the spoiled hour", before.streak(0), 0);
        before.pass(174);
        CHECK.due("hour(0, 2)", before.hour(0, 2), 2);
        CHECK.due("streak from 2 back up to 1", before.streak(0), 1);
        before.pass(60);
        CHECK.due("hour(0, 4), whose next hour has not begun to pass", before.hour(0, 4), 1);
        CHECK.due("streak without it", before.streak(0), 1);
        before.pass(1);
        CHECK.due("hour(0, 4)", before.hour(0, 4), 2);
        CHECK.due("streak over an hour that is not sold", before.streak(0), 2);
        before.pass(120);
        CHECK.due("streak over all kept ones behind the spoiled one", before.streak(0), 3);
        SilentDrives last = new SilentDrives();
        last.sell(3, 99);
        last.sell(3, 98);
        for (int i = 0; i < 11; i++) {
            last.pass(600);
        }
        CHECK.due("streak with the hour 99", last.streak(3), 2);
    }

    private static void share(SilentDrives x) {
        CHECK.due("share(0)", x.share(0), Float.floatToIntBits((float) (4.0 / 6.0)));
        CHECK.due("share(1)", x.share(1), Float.floatToIntBits(1.0f));
        CHECK.due("share(2)", x.share(2), -6);
        for (int drive : NO_DRIVES) {
            CHECK.error(x, "share(" + drive + ")", () -> x.share(drive), -1);
        }
        // Each of the hours 1 to 99 is sold, and some are spoiled: none of drive 0, the first ones of drive 3.
        SilentDrives all = new SilentDrives();
        for (int hour = 1; hour < 100; hour++) {
            for (int drive = 0; drive < 4; drive++) {
                all.sell(drive, hour);
            }
        }
        all.set(SilentDrives.ROOM, 0);
        all.set(SilentDrives.SPEED, 20);
        for (int drive = 0; drive < 4; drive++) {
            CHECK.due("share of hours to come", all.share(drive), -6);
        }
        int[] kept = new int[4];
        int[] spoiled = new int[4];
        all.pass(60);
        for (int hour = 1; hour < 100; hour++) {
            for (int drive = 0; drive < 4; drive++) {
                boolean spoil = (hour * (drive + 2)) % 7 < drive || drive == 3 && hour < 7;
                if (spoil) {
                    // More than the cells that are free by any chance: some are held above ROOM.
                    all.write(drive, 61);
                    spoiled[drive]++;
                } else {
                    kept[drive]++;
                }
            }
            all.pass(60);
            for (int drive = 0; drive < 4; drive++) {
                // The last hour is kept only when a minute behind it has passed.
                int known = all.hour(drive, hour) == 1 ? kept[drive] - 1 : kept[drive];
                long due = known + spoiled[drive] == 0 ? -6
                        : Float.floatToIntBits((float) ((double) known / (known + spoiled[drive])));
                CHECK.due("share(" + drive + ") in hour " + hour, all.share(drive), due);
            }
        }
        all.pass(1);
        for (int drive = 0; drive < 4; drive++) {
            CHECK.due("kept of " + drive, all.ofDrive(drive, 10), kept[drive]);
            CHECK.due("spoiled of " + drive, all.ofDrive(drive, 11), spoiled[drive]);
            CHECK.due("hour(" + drive + ", 99), ended", all.hour(drive, 99) == 1 ? 1 : 0, 0);
            CHECK.due("share of all 99", all.share(drive),
                    Float.floatToIntBits((float) ((double) kept[drive] / 99.0)));
        }
    }

    private static void mean() {
        SilentDrives x = new SilentDrives();
        x.set(SilentDrives.LOW, 0);
        x.write(0, 161);
        CHECK.due("mean before a minute passed", x.mean(0), 0);
        // 101 are held behind the first minute; with 0 free cells LOW 0 never cleans up.
        x.pass(1);
        CHECK.due("mean of 101", x.mean(0), Double.doubleToLongBits(101.0));
        CHECK.due("mean of nothing", x.mean(1), Double.doubleToLongBits(0.0));
        x.write(0, 1);
        x.pass(1);
        CHECK.due("mean of 101 and 102", x.mean(0), Double.doubleToLongBits(101.5));
        x.write(0, 1);
        x.pass(1);
        x.pass(7);
        CHECK.due("mean of ten minutes", x.mean(0), Double.doubleToLongBits((101 + 102 + 8 * 103) / 10.0));
        x.stream(3, 60, 20);
        long sum = 0;
        long held = 0;
        int written = 0;
        for (int minute = 10; minute < 700; minute++) {
            x.pass(1);
            if (minute % 60 == 0) {
                int fits = Math.min(20, 60 - written);
                written += fits;
                held += 20 - fits;
            }
            sum += held;
            CHECK.due("mean(3) at " + (minute + 1), x.mean(3), Double.doubleToLongBits((double) sum / (minute + 1)));
        }
        for (int drive : NO_DRIVES) {
            CHECK.error(x, "mean(" + drive + ")", () -> x.mean(drive), -1);
        }
        CHECK.due("mean(-1) of a new object", new SilentDrives().mean(-1), -1);
        SilentDrives small = new SilentDrives();
        small.set(SilentDrives.LOW, 0);
        small.write(2, 61);
        small.pass(1);
        small.sell(2, 1);
        small.set(SilentDrives.ROOM, 0);
        // The one unit that is held goes to the twin in minute 60: 60 minutes by then, and none behind.
        for (int i = 0; i < 20; i++) {
            small.pass(600);
        }
        CHECK.due("a mean below 1", small.mean(2), Double.doubleToLongBits(60.0 / 12001.0));
        SilentDrives large = new SilentDrives();
        large.set(SilentDrives.LOW, 0);
        large.stream(0, 1, 20);
        large.pass(600);
        long total = 0;
        for (int minute = 0; minute < 600; minute++) {
            total += 20 * (minute + 1) - Math.min(60, 20 * (minute + 1));
        }
        CHECK.due("a large mean", large.mean(0), Double.doubleToLongBits(total / 600.0));
    }

    private static void count(SilentDrives x) {
        CHECK.due("the minute of now", x.count(0), 425);
        CHECK.due("its hour", x.count(1), 7);
        CHECK.due("earned", x.count(2), 60 * 13);
        // 8 credits by the hour 3, whose overrun used one; 10 more by the hour 6, which used 15; 2 behind it.
        CHECK.due("fined", x.count(3), 0);
        CHECK.due("credits", x.count(4), 4);
        CHECK.due("credits used up", x.count(5), 16);
        for (int setting = 0; setting < 7; setting++) {
            int[] due = {60, 5, 2, 20, 50, 4, 0};
            CHECK.due("setting " + setting, x.count(6 + setting), due[setting]);
        }
        CHECK.due("the length of the pad", x.count(13), 0);
        CHECK.due("changes that can be undone", x.count(14), 6);
        x.put('t');
        CHECK.due("the length of the pad", x.count(13), 1);
        CHECK.due("changes that can be undone", x.count(14), 6);
        for (int what : new int[] {-1, 15, Integer.MIN_VALUE, Integer.MAX_VALUE}) {
            CHECK.error(x, "count(" + what + ")", () -> x.count(what), -2);
        }
    }
}
