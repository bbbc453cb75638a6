/** Promises 19 to 22: put, wipe, fault, carryOut. */
public final class TextsTest {
    private static final Check CHECK = new Check("TextsTest");

    public static void main(String[] args) {
        put();
        putErrors();
        wipe();
        faults();
        carryOut();
        carryOutUpToAnError();
        carryOutErrors();
        carryOutIsOneChange();
        CHECK.end();
    }

    private static void put() {
        SilentDrives x = new SilentDrives();
        CHECK.due("put('t')", x.put('t'), 1);
        CHECK.due("fault()", x.fault(), 1);
        CHECK.due("put(\"12;t3\")", x.put(Looks.number("12;t3")), 6);
        CHECK.due("fault()", x.fault(), -6);
        CHECK.due("put of 8 characters", x.put(Looks.number(";s0@12;t")), 14);
        CHECK.due("fault()", x.fault(), 14);
        CHECK.due("put('4')", x.put('4'), 15);
        CHECK.due("carryOut()", x.carryOut(), 4);
        CHECK.due("the minute of now", x.count(0), 19);
        CHECK.due("put('!'), the first that can be put", x.put(33), 1);
        CHECK.due("put('~'), the last that can be put", x.put(126), 2);
        CHECK.due("changes", x.count(14), 1);
        SilentDrives full = new SilentDrives();
        for (int i = 1; i <= 10; i++) {
            CHECK.due("put of 8 characters", full.put(Looks.number("t1;t1;t1")), 8 * i);
        }
        CHECK.error(full, "put beyond 80", () -> full.put('t'), -4);
        full.wipe();
        for (int i = 1; i <= 79; i++) {
            CHECK.due("put of one character", full.put(';'), i);
        }
        CHECK.error(full, "put of 2 on 79", () -> full.put(Looks.number("ab")), -4);
        CHECK.due("put of 1 on 79", full.put('a'), 80);
    }

    private static void putErrors() {
        SilentDrives x = new SilentDrives();
        x.put(Looks.number("t1"));
        CHECK.error(x, "put(0)", () -> x.put(0), -2);
        CHECK.error(x, "put(-1)", () -> x.put(-1), -2);
        CHECK.error(x, "put(least)", () -> x.put(Long.MIN_VALUE), -2);
        CHECK.error(x, "put(most)", () -> x.put(Long.MAX_VALUE), -2);
        for (int code : new int[] {1, 31, 32, 127, 128, 161, 255}) {
            CHECK.error(x, "put of " + code, () -> x.put(code), -2);
            for (int place = 0; place < 8; place++) {
                long good = Looks.number("12345678");
                long bad = good & ~(255L << 8 * place) | (long) code << 8 * place;
                CHECK.error(x, "put of " + code + " at " + place, () -> x.put(bad), -2);
            }
        }
        CHECK.error(x, "put with a gap", () -> x.put((long) 't' << 8), -2);
        CHECK.error(x, "put with a gap", () -> x.put((long) 't' << 56 | '1'), -2);
        CHECK.error(x, "put with a bit above a gap", () -> x.put(1L << 16 | '1'), -2);
        CHECK.error(x, "put with the highest bit above a gap", () -> x.put(Long.MIN_VALUE | '1'), -2);
        for (int place = 0; place < 7; place++) {
            long gap = Looks.number("12345678") & ~(255L << 8 * place);
            CHECK.error(x, "put with a gap at " + place, () -> x.put(gap), -2);
        }
        CHECK.due("put without the highest character", x.put(Looks.number("12345678") & ~(255L << 56)), 9);
        SilentDrives full = new SilentDrives();
        Looks.put(full, "t1;".repeat(26) + "t1");
        CHECK.error(full, "put(32) on a full pad", () -> full.put(32), -2);
        CHECK.error(full, "put(0) on a full pad", () -> full.put(0), -2);
    }

    private static void wipe() {
        SilentDrives x = new SilentDrives();
        CHECK.due("wipe() of nothing", x.wipe(), 0);
        Looks.put(x, "t1;t2");
        CHECK.due("wipe()", x.wipe(), 5);
        CHECK.due("the length of the pad", x.count(13), 0);
        CHECK.due("fault()", x.fault(), 0);
        CHECK.due("wipe() again", x.wipe(), 0);
        CHECK.due("changes", x.count(14), 0);
        Looks.put(x, "t3");
        CHECK.due("carryOut()", x.carryOut(), 1);
        CHECK.due("the minute of now", x.count(0), 3);
    }

    private static final String[] GOOD = {"t0", "t1", "t999", "s0@0", "s3@99", "s1@999", "g0@0", "g3@100", "w0*0", "w2*999",
            "v0/0*0", "v3/999*999", "v1/10*200", "t1;t1", "s0@1;g0@1;w0*1;v0/1*1;t1", "v2/5*20;v2/1*0"};

    private static final String[] BAD = {"", "x", "T1", "1", ";", "@", "t", "ta", "t-1", "t01", "t00", "t1000", "t10000", "t1;",
            "t1;;", "t1;x", "t1t", "t1+;", "t;", "s", "s4", "s9@1", "sa", "s0", "s0*1", "s00@1",
            "s0@", "s0@x", "s0@01",
            "s0@1234", "s0@1*1", "s0@1;s", "g", "g0", "g5@1", "g0@", "g0/1", "g0@12345", "w", "w7*1", "w0", "w0@1", "w0*",
            "w0*02", "w0*1000", "w0*1;w0*", "v", "v4/1*1", "v0", "v0*1", "v0@1", "v0/", "v0/*", "v0/1", "v0/1;", "v0/1/1",
            "v0/01*1", "v0/1000*1", "v0/1*", "v0/1*01", "v0/1*1000", "v0/1*1*1", "t1;t2;t3;t4x", "s-1@1", "t1@1",
            "s@1", "g@1", "w*1", "v/1*1", "t1;s@1"};

    private static final int[] FAULTS = {0, 0, 0, 0, 0, 0, 1, 1, 1, 2, 2, 4, 4, 3,
            3, 3, 2, 2, 1, 1, 1, 1, 1, 2, 2, 2, 3, 3, 4,
            6, 4, 6, 1, 2, 1, 3, 2, 6, 1, 1, 2, 2, 3,
            4, 6, 8, 1, 1, 2, 2, 2, 3, 3, 4, 4, 4,
            4, 6, 5, 6, 8, 6, 11, 1, 2, 1, 1, 1, 1, 4};

    private static void faults() {
        for (String text : GOOD) {
            SilentDrives x = new SilentDrives();
            Looks.put(x, text);
            CHECK.due("fault() of " + text, x.fault(), -6);
            CHECK.due("the length of " + text, x.count(13), text.length());
        }
        CHECK.due("texts", FAULTS.length, BAD.length);
        for (int i = 0; i < BAD.length && i < FAULTS.length; i++) {
            SilentDrives x = new SilentDrives();
            Looks.put(x, BAD[i]);
            CHECK.due("fault() of " + BAD[i], x.fault(), FAULTS[i]);
            CHECK.error(x, "carryOut() of " + BAD[i], () -> x.carryOut(), -3);
        }
        SilentDrives long80 = new SilentDrives();
        Looks.put(long80, "t1;".repeat(26) + "t1");
        CHECK.due("fault() of 80 characters", long80.fault(), -6);
        CHECK.due("fault() again", long80.fault(), -6);
        CHECK.due("the length of 80 characters", long80.count(13), 80);
        CHECK.due("carryOut() of 80 characters", long80.carryOut(), 27);
        CHECK.due("the minute of now", long80.count(0), 27);
        SilentDrives early = new SilentDrives();
        Looks.put(early, "t1;".repeat(26) + "s1");
        CHECK.due("fault() of 80 characters that end too early", early.fault(), 80);
        early.wipe();
        Looks.put(early, "t999;".repeat(16));
        CHECK.due("fault() of 80 characters that end with ;", early.fault(), 80);
        SilentDrives rest = new SilentDrives();
        Looks.put(rest, "t123");
        rest.wipe();
        rest.put('t');
        CHECK.due("fault() does not read what was wiped", rest.fault(), 1);
    }

    private static void carryOut() {
        SilentDrives x = new SilentDrives();
        Looks.put(x, "s2@1;s3@1;g3@1;w1*200;v3/60*20;t61");
        CHECK.due("fault()", x.fault(), -6);
        CHECK.due("carryOut()", x.carryOut(), 6);
        CHECK.due("the length of the pad", x.count(13), 0);
        SilentDrives same = new SilentDrives();
        same.sell(2, 1);
        same.sell(3, 1);
        same.giveBack(3, 1);
        same.write(1, 200);
        same.stream(3, 60, 20);
        same.pass(61);
        CHECK.same("the state", Looks.atState(x), Looks.atState(same));
        CHECK.due("hour(2, 1)", x.hour(2, 1), 1);
        CHECK.due("hour(3, 1)", x.hour(3, 1), 0);
        CHECK.due("minutes of the stream", x.ofDrive(3, 12), 60);
        CHECK.due("units of the stream", x.ofDrive(3, 13), 20);
        CHECK.due("written by 3", x.ofDrive(3, 6), 40);
        CHECK.due("the minute of now", x.count(0), 61);
        CHECK.due("changes", x.count(14), 1);
        CHECK.due("carryOut() of the empty pad", x.carryOut(), -3);
    }

    private static final String[] STOPS = {"t1;t0;t1", "t1;t601;t1", "t1;w0*0;t1", "t1;w0*201;t1", "t1;v0/0*1;t1", "t1;v0/61*1;t1",
            "t1;v0/1*21;t1", "t1;s0@0;t1", "t1;s0@100;t1", "t1;g0@1;t1", "t1;g0@999;t1"};

    private static void carryOutUpToAnError() {
        for (String text : STOPS) {
            SilentDrives x = new SilentDrives();
            Looks.put(x, text);
            CHECK.due("carryOut() of " + text, x.carryOut(), 1);
            CHECK.due("the length of the pad behind " + text, x.count(13), 0);
            CHECK.due("changes behind " + text, x.count(14), 1);
            SilentDrives same = new SilentDrives();
            same.pass(1);
            CHECK.same("the state behind " + text, Looks.atState(x), Looks.atState(same));
            SilentDrives none = new SilentDrives();
            Looks.put(none, text.substring(3));
            CHECK.due("carryOut() of " + text.substring(3), none.carryOut(), 0);
            CHECK.due("the length of the pad", none.count(13), 0);
            CHECK.due("changes", none.count(14), 1);
            CHECK.same("the state", Looks.atState(none), Looks.atState(new SilentDrives()));
        }
        SilentDrives twice = new SilentDrives();
        Looks.put(twice, "s0@1;s0@1;s0@2");
        CHECK.due("carryOut() of an hour sold twice", twice.carryOut(), 1);
        CHECK.due("hour(0, 2)", twice.hour(0, 2), 0);
    }

    private static void carryOutErrors() {
        SilentDrives x = new SilentDrives();
        x.write(0, 7);
        CHECK.error(x, "carryOut() of nothing", () -> x.carryOut(), -3);
        Looks.put(x, "t1;t2;q");
        CHECK.error(x, "carryOut() with a fault at the end", () -> x.carryOut(), -3);
        CHECK.due("the pad stays", x.count(13), 7);
        CHECK.due("the minute of now", x.count(0), 0);
    }

    private static void carryOutIsOneChange() {
        SilentDrives x = new SilentDrives();
        x.write(0, 7);
        String before = Looks.atState(x);
        Looks.put(x, "t1;t2;w1*5");
        CHECK.due("carryOut()", x.carryOut(), 3);
        CHECK.due("changes", x.count(14), 2);
        Looks.put(x, "t9");
        CHECK.due("undo()", x.undo(), 1);
        CHECK.same("the state", Looks.atState(x), before);
        CHECK.due("the pad, as it was ahead of undo()", x.count(13), 2);
    }
}
