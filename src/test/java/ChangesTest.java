/** Promises 1 to 7: a new object, set, stream, write, sell, giveBack, pass. */
public final class ChangesTest {
    private static final Check CHECK = new Check("ChangesTest");

    public static void main(String[] args) {
        newObject();
        set();
        setErrors();
        stream();
        streamErrors();
        write();
        writeErrors();
        sell();
        sellErrors();
        giveBack();
        giveBackErrors();
        pass();
        passErrors();
        CHECK.end();
    }

    private static void newObject() {
        SilentDrives x = new SilentDrives();
        int[] due = {60, 0, 0, 0, 0, 0, 0, 0, 0, 0, 0, 0, 1, 0};
        for (int drive = 0; drive < 4; drive++) {
            for (int what = 0; what < 14; what++) {
                CHECK.due("ofDrive(" + drive + ", " + what + ") of a new object", x.ofDrive(drive, what), due[what]);
            }
            for (int hour = 0; hour < 100; hour++) {
                CHECK.due("hour(" + drive + ", " + hour + ") of a new object", x.hour(drive, hour), 0);
            }
            CHECK.due("streak of a new object", x.streak(drive), 0);
            CHECK.due("share of a new object", x.share(drive), -6);
            CHECK.due("mean of a new object", x.mean(drive), 0);
        }
        int[] counts = {0, 0, 0, 0, 0, 0, 60, 5, 2, 20, 50, 4, 20, 0, 0};
        for (int what = 0; what < 15; what++) {
            CHECK.due("count(" + what + ") of a new object", x.count(what), counts[what]);
        }
        CHECK.due("fault() of a new object", x.fault(), 0);
        CHECK.due("undo() of a new object", x.undo(), -5);
        CHECK.due("restore(0) of a new object", x.restore(0), -5);
        CHECK.due("restore(1) of a new object", x.restore(1), -5);
    }

    private static final int[] LEAST = {0, 0, 0, 0, 0, 1, 0};
    private static final int[] MOST = {999, 99, 9, 60, 60, 20, 60};
    private static final int[] FIRST = {60, 5, 2, 20, 50, 4, 20};

    private static void set() {
        for (int setting = 0; setting < 7; setting++) {
            SilentDrives x = new SilentDrives();
            CHECK.due("set(" + setting + ", most)", x.set(setting, MOST[setting]), FIRST[setting]);
            CHECK.due("the setting " + setting, x.count(6 + setting), MOST[setting]);
            CHECK.due("set(" + setting + ", least)", x.set(setting, LEAST[setting]), MOST[setting]);
            CHECK.due("the setting " + setting, x.count(6 + setting), LEAST[setting]);
            CHECK.due("set to the same", x.set(setting, LEAST[setting]), LEAST[setting]);
            CHECK.due("changes", x.count(14), 3);
            for (int other = 0; other < 7; other++) {
                if (other != setting) {
                    CHECK.due("the setting " + other, x.count(6 + other), FIRST[other]);
                }
            }
        }
    }

    private static void setErrors() {
        SilentDrives x = busy();
        for (int setting = 0; setting < 7; setting++) {
            int number = setting;
            CHECK.error(x, "set(" + number + ", above)", () -> x.set(number, MOST[number] + 1), -2);
            CHECK.error(x, "set(" + number + ", below)", () -> x.set(number, LEAST[number] - 1), -2);
            CHECK.error(x, "set(" + number + ", far)", () -> x.set(number, Integer.MAX_VALUE), -2);
            CHECK.error(x, "set(" + number + ", far)", () -> x.set(number, Integer.MIN_VALUE), -2);
        }
        CHECK.error(x, "set(-1, 1)", () -> x.set(-1, 1), -2);
        CHECK.error(x, "set(7, 1)", () -> x.set(7, 1), -2);
        CHECK.error(x, "set(far, 1)", () -> x.set(Integer.MAX_VALUE, 1), -2);
        CHECK.error(x, "set(far, 1)", () -> x.set(Integer.MIN_VALUE, 1), -2);
    }

    private static void stream() {
        SilentDrives x = new SilentDrives();
        CHECK.due("stream(2, 60, 20)", x.stream(2, 60, 20), 0);
        CHECK.due("stream(2, 1, 0)", x.stream(2, 1, 0), 20);
        CHECK.due("stream(2, 7, 3)", x.stream(2, 7, 3), 0);
        CHECK.due("its minutes", x.ofDrive(2, 12), 7);
        CHECK.due("its units", x.ofDrive(2, 13), 3);
        CHECK.due("the minutes of another", x.ofDrive(3, 12), 1);
        CHECK.due("the units of another", x.ofDrive(3, 13), 0);
        CHECK.due("changes", x.count(14), 3);
        CHECK.due("pass(1)", x.pass(1), 1);
        CHECK.due("units written in minute 0", x.ofDrive(2, 6), 3);
        CHECK.due("pass(6)", x.pass(6), 7);
        CHECK.due("units written before minute 7", x.ofDrive(2, 6), 3);
        CHECK.due("pass(1)", x.pass(1), 8);
        CHECK.due("units written with minute 7", x.ofDrive(2, 6), 6);
    }

    private static void streamErrors() {
        SilentDrives x = busy();
        for (int drive : new int[] {-1, 4, Integer.MIN_VALUE, Integer.MAX_VALUE}) {
            CHECK.error(x, "stream(" + drive + ", 1, 1)", () -> x.stream(drive, 1, 1), -1);
            CHECK.error(x, "stream(" + drive + ", 0, 21)", () -> x.stream(drive, 0, 21), -1);
        }
        for (int every : new int[] {-1, 0, 61, Integer.MIN_VALUE, Integer.MAX_VALUE}) {
            CHECK.error(x, "stream(0, " + every + ", 1)", () -> x.stream(0, every, 1), -2);
        }
        for (int units : new int[] {-1, 21, Integer.MIN_VALUE, Integer.MAX_VALUE}) {
            CHECK.error(x, "stream(0, 1, " + units + ")", () -> x.stream(0, 1, units), -2);
        }
    }

    private static void write() {
        SilentDrives x = new SilentDrives();
        CHECK.due("write(3, 1)", x.write(3, 1), 1);
        CHECK.due("write(3, 200)", x.write(3, 200), 201);
        CHECK.due("write(1, 5)", x.write(1, 5), 5);
        CHECK.due("held by 3", x.ofDrive(3, 3), 201);
        CHECK.due("free of 3, until a minute passes", x.ofDrive(3, 0), 60);
        CHECK.due("held by 2", x.ofDrive(2, 3), 0);
        CHECK.due("changes", x.count(14), 3);
    }

    private static void writeErrors() {
        SilentDrives x = busy();
        for (int drive : new int[] {-1, 4, Integer.MIN_VALUE, Integer.MAX_VALUE}) {
            CHECK.error(x, "write(" + drive + ", 1)", () -> x.write(drive, 1), -1);
            CHECK.error(x, "write(" + drive + ", 0)", () -> x.write(drive, 0), -1);
        }
        for (int units : new int[] {-1, 0, 201, Integer.MIN_VALUE, Integer.MAX_VALUE}) {
            CHECK.error(x, "write(1, " + units + ")", () -> x.write(1, units), -2);
        }
        SilentDrives full = new SilentDrives();
        for (int i = 1; i < 50; i++) {
            CHECK.due("write(2, 200)", full.write(2, 200), 200 * i);
        }
        CHECK.error(full, "write(2, 200) on 9800", () -> full.write(2, 201), -2);
        CHECK.due("write(2, 199) on 9800", full.write(2, 199), 9999);
        CHECK.error(full, "write(2, 1) on 9999", () -> full.write(2, 1), -4);
        CHECK.error(full, "write(2, 0) on 9999", () -> full.write(2, 0), -2);
        CHECK.due("write(3, 1)", full.write(3, 1), 1);
        full.undo();
        full.undo();
        CHECK.error(full, "write(2, 200) on 9800", () -> full.write(2, 200), -4);
    }

    private static void sell() {
        SilentDrives x = new SilentDrives();
        CHECK.due("sell(0, 1)", x.sell(0, 1), 1);
        CHECK.due("sell(0, 99)", x.sell(0, 99), 2);
        CHECK.due("sell(1, 1)", x.sell(1, 1), 1);
        CHECK.due("hour(0, 1)", x.hour(0, 1), 1);
        CHECK.due("hour(0, 99)", x.hour(0, 99), 1);
        CHECK.due("hour(1, 99)", x.hour(1, 99), 0);
        CHECK.due("changes", x.count(14), 3);
        CHECK.due("set(ROOM, 0)", x.set(SilentDrives.ROOM, 0), 20);
        CHECK.due("pass(60)", x.pass(60), 60);
        x.write(0, 100);
        CHECK.due("pass(60)", x.pass(60), 120);
        CHECK.due("pass(1)", x.pass(1), 121);
        CHECK.due("hour(0, 1), spoiled", x.hour(0, 1), 3);
        CHECK.due("hour(1, 1), kept", x.hour(1, 1), 2);
        CHECK.due("sell(0, 3) counts the spoiled one", x.sell(0, 3), 3);
        CHECK.due("sell(1, 3) counts the kept one", x.sell(1, 3), 2);
    }

    private static void sellErrors() {
        SilentDrives x = busy();
        for (int drive : new int[] {-1, 4, Integer.MIN_VALUE, Integer.MAX_VALUE}) {
            CHECK.error(x, "sell(" + drive + ", 50)", () -> x.sell(drive, 50), -1);
            CHECK.error(x, "sell(" + drive + ", 100)", () -> x.sell(drive, 100), -1);
        }
        for (int hour : new int[] {-1, 100, Integer.MIN_VALUE, Integer.MAX_VALUE}) {
            CHECK.error(x, "sell(1, " + hour + ")", () -> x.sell(1, hour), -2);
        }
        CHECK.due("the hour of now", x.count(1), 2);
        CHECK.error(x, "sell(1, 0)", () -> x.sell(1, 0), -5);
        CHECK.error(x, "sell(1, 1)", () -> x.sell(1, 1), -5);
        CHECK.error(x, "sell(1, 2)", () -> x.sell(1, 2), -5);
        CHECK.error(x, "sell(0, 5), sold already", () -> x.sell(0, 5), -5);
        CHECK.due("sell(1, 3)", x.sell(1, 3), 1);
        SilentDrives edge = new SilentDrives();
        edge.pass(59);
        CHECK.error(edge, "sell(0, 0) in the last minute of the hour 0", () -> edge.sell(0, 0), -5);
        CHECK.due("sell(0, 1) in the last minute of the hour 0", edge.sell(0, 1), 1);
        edge.pass(1);
        CHECK.error(edge, "sell(1, 1) in the first minute of the hour 1", () -> edge.sell(1, 1), -5);
    }

    private static void giveBack() {
        SilentDrives x = new SilentDrives();
        x.sell(2, 4);
        x.sell(2, 99);
        x.sell(3, 4);
        CHECK.due("giveBack(2, 99)", x.giveBack(2, 99), 1);
        CHECK.due("hour(2, 99)", x.hour(2, 99), 0);
        CHECK.due("hour(2, 4)", x.hour(2, 4), 1);
        CHECK.due("giveBack(2, 4)", x.giveBack(2, 4), 0);
        CHECK.due("hour(3, 4)", x.hour(3, 4), 1);
        CHECK.due("changes", x.count(14), 5);
        CHECK.due("sell(2, 4) again", x.sell(2, 4), 1);
    }

    private static void giveBackErrors() {
        SilentDrives x = busy();
        for (int drive : new int[] {-1, 4, Integer.MIN_VALUE, Integer.MAX_VALUE}) {
            CHECK.error(x, "giveBack(" + drive + ", 5)", () -> x.giveBack(drive, 5), -1);
            CHECK.error(x, "giveBack(" + drive + ", 100)", () -> x.giveBack(drive, 100), -1);
        }
        for (int hour : new int[] {-1, 100, Integer.MIN_VALUE, Integer.MAX_VALUE}) {
            CHECK.error(x, "giveBack(0, " + hour + ")", () -> x.giveBack(0, hour), -2);
        }
        CHECK.due("hour(0, 1), kept", x.hour(0, 1), 2);
        CHECK.due("hour(0, 2), of now", x.hour(0, 2), 1);
        CHECK.error(x, "giveBack(0, 1), kept", () -> x.giveBack(0, 1), -5);
        CHECK.error(x, "giveBack(0, 2), of now", () -> x.giveBack(0, 2), -5);
        CHECK.error(x, "giveBack(0, 6), not sold", () -> x.giveBack(0, 6), -5);
        CHECK.error(x, "giveBack(1, 5), sold for another", () -> x.giveBack(1, 5), -5);
        CHECK.due("giveBack(0, 5)", x.giveBack(0, 5), 2);
    }

    private static void pass() {
        SilentDrives x = new SilentDrives();
        CHECK.due("pass(1)", x.pass(1), 1);
        CHECK.due("pass(600)", x.pass(600), 601);
        CHECK.due("the minute of now", x.count(0), 601);
        CHECK.due("its hour", x.count(1), 10);
        CHECK.due("changes", x.count(14), 2);
        for (int i = 0; i < 10; i++) {
            x.pass(600);
        }
        CHECK.due("the hour behind those that can be sold", x.count(1), 110);
        CHECK.due("quiet then", x.ofDrive(0, 4), 0);
        CHECK.due("sell(0, 99) then", x.sell(0, 99), -5);
    }

    private static void passErrors() {
        SilentDrives x = busy();
        for (int minutes : new int[] {-1, 0, 601, Integer.MIN_VALUE, Integer.MAX_VALUE}) {
            CHECK.error(x, "pass(" + minutes + ")", () -> x.pass(minutes), -2);
        }
    }

    /** Drives at the minute 130, with a kept hour, one of now, one to come, units held and something on the pad. */
    private static SilentDrives busy() {
        SilentDrives x = new SilentDrives();
        x.sell(0, 1);
        x.sell(0, 2);
        x.sell(0, 5);
        x.write(0, 70);
        x.stream(2, 3, 9);
        x.pass(130);
        x.write(1, 30);
        Looks.put(x, "t1;");
        return x;
    }
}
