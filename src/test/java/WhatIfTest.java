/** Promises 14 to 18: loudIn, freeIn, mostHeld, firstSafe, leastRoom. None of them changes anything. */
public final class WhatIfTest {
    private static final Check CHECK = new Check("WhatIfTest");

    public static void main(String[] args) {
        loudIn();
        freeIn();
        mostHeld();
        questionErrors();
        firstSafe();
        firstSafeAtTheEnds();
        firstSafeOfAnyDrive();
        firstSafeErrors();
        leastRoom();
        leastRoomErrors();
        CHECK.end();
    }

    /** Both twins 0 and 1 are quiet in the hours 1 and 2, and 5 units a minute come to drive 0. */
    private static SilentDrives loud() {
        SilentDrives x = new SilentDrives();
        x.sell(0, 1);
        x.sell(1, 1);
        x.sell(0, 2);
        x.sell(1, 2);
        x.stream(0, 1, 5);
        return x;
    }

    /** Does the question, looks whether it changed anything, and gives its answer. */
    private static int asked(SilentDrives x, String call, Check.LongCall does) {
        String before = Looks.at(x);
        int answer = (int) does.answer();
        CHECK.same("what there is behind " + call, Looks.at(x), before);
        return answer;
    }

    private static void loudIn() {
        SilentDrives x = loud();
        int[] asked = {1, 60, 61, 64, 120, 180, 300, 600};
        for (int minutes : asked) {
            SilentDrives real = loud();
            real.pass(minutes);
            int got = asked(x, "loudIn(0, " + minutes + ")", () -> x.loudIn(0, minutes));
            CHECK.due("loudIn(0, " + minutes + ")", got, real.ofDrive(0, 8));
        }
        CHECK.due("loudIn(0, 60)", x.loudIn(0, 60), 0);
        CHECK.due("loudIn(1, 600)", x.loudIn(1, 600), 0);
        x.pass(100);
        int before = x.ofDrive(0, 8);
        int got = asked(x, "loudIn(0, 60)", () -> x.loudIn(0, 60));
        x.pass(60);
        CHECK.due("loudIn(0, 60) at minute 100", got, x.ofDrive(0, 8) - before);
        SilentDrives each = new SilentDrives();
        each.sell(0, 1);
        each.sell(1, 1);
        each.set(SilentDrives.ROOM, 0);
        each.pass(60);
        each.write(0, 72);
        // 60 are written, and 12, 8 and 4 are held above ROOM.
        CHECK.due("loudIn(0, 1)", each.loudIn(0, 1), 1);
        CHECK.due("loudIn(0, 2)", each.loudIn(0, 2), 2);
        CHECK.due("loudIn(0, 3)", each.loudIn(0, 3), 3);
        CHECK.due("loudIn(0, 4)", each.loudIn(0, 4), 3);
        CHECK.due("loudIn(0, 600)", each.loudIn(0, 600), 3);
    }

    private static void freeIn() {
        SilentDrives x = new SilentDrives();
        x.write(0, 60);
        CHECK.due("freeIn(0, 1)", asked(x, "freeIn(0, 1)", () -> x.freeIn(0, 1)), 4);
        CHECK.due("freeIn(0, 2)", asked(x, "freeIn(0, 2)", () -> x.freeIn(0, 2)), 8);
        CHECK.due("freeIn(0, 13)", asked(x, "freeIn(0, 13)", () -> x.freeIn(0, 13)), 52);
        CHECK.due("freeIn(0, 600)", asked(x, "freeIn(0, 600)", () -> x.freeIn(0, 600)), 52);
        CHECK.due("freeIn(1, 600)", asked(x, "freeIn(1, 600)", () -> x.freeIn(1, 600)), 60);
        CHECK.due("ofDrive(0, 0)", x.ofDrive(0, 0), 60);
    }

    private static void mostHeld() {
        SilentDrives x = new SilentDrives();
        x.write(0, 100);
        // 60 are written in the first minute, so 40 are held behind it; what is held now does not count.
        CHECK.due("mostHeld(0, 1)", asked(x, "mostHeld(0, 1)", () -> x.mostHeld(0, 1)), 40);
        CHECK.due("mostHeld(0, 600)", asked(x, "mostHeld(0, 600)", () -> x.mostHeld(0, 600)), 40);
        CHECK.due("mostHeld(1, 600)", asked(x, "mostHeld(1, 600)", () -> x.mostHeld(1, 600)), 0);
        SilentDrives y = new SilentDrives();
        y.stream(3, 50, 20);
        y.set(SilentDrives.LOW, 0);
        // 20, 40 and 60 are written by minute 100; 20 more are held behind minute 150, the 151st.
        CHECK.due("mostHeld(3, 150)", asked(y, "mostHeld(3, 150)", () -> y.mostHeld(3, 150)), 0);
        CHECK.due("mostHeld(3, 151)", asked(y, "mostHeld(3, 151)", () -> y.mostHeld(3, 151)), 20);
        CHECK.due("mostHeld(3, 600)", asked(y, "mostHeld(3, 600)", () -> y.mostHeld(3, 600)), 180);
    }

    private static void questionErrors() {
        SilentDrives x = loud();
        for (int drive : new int[] {-1, 4, Integer.MIN_VALUE, Integer.MAX_VALUE}) {
            for (int minutes : new int[] {1, 0}) {
                CHECK.error(x, "loudIn(" + drive + ", " + minutes + ")", () -> x.loudIn(drive, minutes), -1);
                CHECK.error(x, "freeIn(" + drive + ", " + minutes + ")", () -> x.freeIn(drive, minutes), -1);
                CHECK.error(x, "mostHeld(" + drive + ", " + minutes + ")", () -> x.mostHeld(drive, minutes), -1);
            }
        }
        for (int minutes : new int[] {-1, 0, 601, Integer.MIN_VALUE, Integer.MAX_VALUE}) {
            CHECK.error(x, "loudIn(0, " + minutes + ")", () -> x.loudIn(0, minutes), -2);
            CHECK.error(x, "freeIn(0, " + minutes + ")", () -> x.freeIn(0, minutes), -2);
            CHECK.error(x, "mostHeld(0, " + minutes + ")", () -> x.mostHeld(0, minutes), -2);
        }
    }

    private static void firstSafe() {
        SilentDrives x = new SilentDrives();
        CHECK.due("firstSafe(0)", asked(x, "firstSafe(0)", () -> x.firstSafe(0)), 1);
        x.sell(0, 1);
        x.sell(0, 2);
        x.sell(0, 4);
        CHECK.due("firstSafe(0) with sold hours", asked(x, "firstSafe(0)", () -> x.firstSafe(0)), 3);
        CHECK.due("firstSafe(1)", asked(x, "firstSafe(1)", () -> x.firstSafe(1)), 1);
        // Drive 1 is given 1200 units an hour, too many for it and its twin: each quiet hour would be loud.
        x.stream(1, 1, 20);
        CHECK.due("firstSafe(1) with a stream", asked(x, "firstSafe(1)", () -> x.firstSafe(1)), -6);
        CHECK.due("firstSafe(0) beside it", asked(x, "firstSafe(0)", () -> x.firstSafe(0)), 3);
        // Drive 3 still holds 130 units when the hour 1 begins, and its twin is quiet; all are written by the hour 2.
        SilentDrives y = new SilentDrives();
        y.sell(2, 1);
        y.pass(59);
        y.write(3, 190);
        CHECK.due("firstSafe(3)", asked(y, "firstSafe(3)", () -> y.firstSafe(3)), 2);
        SilentDrives real = new SilentDrives();
        real.sell(2, 1);
        real.pass(59);
        real.write(3, 190);
        real.sell(3, 1);
        real.pass(61);
        CHECK.due("the hour 1, if it was sold", real.hour(3, 1), 3);
    }

    private static void firstSafeAtTheEnds() {
        SilentDrives x = new SilentDrives();
        for (int hour = 1; hour < 24; hour++) {
            x.sell(2, hour);
        }
        CHECK.due("firstSafe(2), the 24th hour", x.firstSafe(2), 24);
        x.sell(2, 24);
        CHECK.due("firstSafe(2), no more than 24", x.firstSafe(2), -6);
        x.pass(59);
        CHECK.due("firstSafe(2) in the last minute of the hour 0", x.firstSafe(2), -6);
        x.pass(1);
        CHECK.due("firstSafe(2) in the first minute of the hour 1", x.firstSafe(2), 25);
        SilentDrives late = new SilentDrives();
        for (int i = 0; i < 9; i++) {
            late.pass(600);
        }
        late.pass(539);
        CHECK.due("firstSafe(0) in the hour 98", late.firstSafe(0), 99);
        late.sell(0, 99);
        CHECK.due("firstSafe(0) with the last one sold", late.firstSafe(0), -6);
        CHECK.due("firstSafe(1)", late.firstSafe(1), 99);
        late.pass(1);
        CHECK.due("firstSafe(1) in the hour 99", late.firstSafe(1), -6);
        late.pass(600);
        CHECK.due("firstSafe(1) in the hour 109", late.firstSafe(1), -6);
    }

    private static void firstSafeOfAnyDrive() {
        // Drive 0 is loud in the hour 2, whatever drive 3 does; overruns ahead of an hour do not count.
        SilentDrives x = new SilentDrives();
        x.sell(0, 1);
        x.sell(1, 1);
        x.stream(0, 1, 20);
        CHECK.due("firstSafe(3) behind the loud hour", x.firstSafe(3), 2);
        CHECK.due("loudIn(0, 120)", x.loudIn(0, 120) > 0 ? 1 : 0, 1);
        // Drive 2 could lend to drive 3, were that not quiet: what is loud is the twin's hour, not its own.
        SilentDrives y = new SilentDrives();
        y.sell(2, 1);
        y.pass(59);
        y.write(2, 139);
        CHECK.due("loudIn(2, 61)", y.loudIn(2, 61), 0);
        CHECK.due("firstSafe(3)", y.firstSafe(3), 2);
        CHECK.due("firstSafe(0)", y.firstSafe(0), 1);
    }

    private static void firstSafeErrors() {
        SilentDrives x = loud();
        for (int drive : new int[] {-1, 4, Integer.MIN_VALUE, Integer.MAX_VALUE}) {
            CHECK.error(x, "firstSafe(" + drive + ")", () -> x.firstSafe(drive), -1);
        }
    }

    private static void leastRoom() {
        SilentDrives x = new SilentDrives();
        CHECK.due("leastRoom(10)", asked(x, "leastRoom(10)", () -> x.leastRoom(10)), 0);
        x.sell(0, 1);
        x.sell(1, 1);
        x.set(SilentDrives.LOW, 0);
        x.write(0, 97);
        CHECK.due("leastRoom(1) ahead of the hour", asked(x, "leastRoom(1)", () -> x.leastRoom(1)), 0);
        CHECK.due("leastRoom(2)", asked(x, "leastRoom(2)", () -> x.leastRoom(2)), 37);
        CHECK.due("ROOM", x.count(12), 20);
        CHECK.due("set(ROOM, 36)", x.set(SilentDrives.ROOM, 36), 20);
        CHECK.due("loudIn(0, 120) with 36", x.loudIn(0, 120), 1);
        CHECK.due("set(ROOM, 37)", x.set(SilentDrives.ROOM, 37), 36);
        CHECK.due("loudIn(0, 120) with 37", x.loudIn(0, 120), 0);
        x.write(0, 23);
        CHECK.due("leastRoom(2) with 60", asked(x, "leastRoom(2)", () -> x.leastRoom(2)), 60);
        x.write(0, 1);
        CHECK.due("leastRoom(2) with 61", asked(x, "leastRoom(2)", () -> x.leastRoom(2)), -6);
        CHECK.due("leastRoom(1) with 61", asked(x, "leastRoom(1)", () -> x.leastRoom(1)), 0);
        SilentDrives late = new SilentDrives();
        late.sell(3, 10);
        late.sell(2, 10);
        late.set(SilentDrives.LOW, 0);
        late.write(3, 69);
        CHECK.due("leastRoom(10) ahead of the hour 10", late.leastRoom(10), 0);
        late.pass(1);
        CHECK.due("leastRoom(10) up to its first minute", late.leastRoom(10), 9);
        CHECK.due("leastRoom(9)", late.leastRoom(9), 0);
        SilentDrives lends = new SilentDrives();
        lends.sell(1, 1);
        lends.set(SilentDrives.LOW, 0);
        lends.write(0, 30);
        lends.write(1, 99);
        lends.pass(60);
        CHECK.due("leastRoom(1) with 30 that could be lent", lends.leastRoom(1), 9);
    }

    private static void leastRoomErrors() {
        SilentDrives x = loud();
        for (int hours : new int[] {-1, 0, 11, Integer.MIN_VALUE, Integer.MAX_VALUE}) {
            CHECK.error(x, "leastRoom(" + hours + ")", () -> x.leastRoom(hours), -2);
        }
    }
}
