/** Terms: Texts; promises 19 to 22: put, wipe, fault, carryOut. */
final class OfTexts extends Tests {
    private static final String ORDERS = "sgwvt";
    private static final String DIGITS = "0123456789";

    private void fault(String text, int due) {
        due("fault() of \"" + text + "\"", withText(text).fault(), due);
    }

    /** Puts each character that can be put behind a beginning, and looks whether those alone can stand there. */
    private void next(String begin, String allowed) {
        for (char sign = 33; sign <= 126; sign++) {
            int fault = withText(begin + sign).fault();
            boolean stands = fault == NONE || fault == begin.length() + 1;
            due("\"" + sign + "\" can stand behind \"" + begin + "\"", stands ? 1 : 0, allowed.indexOf(sign) >= 0 ? 1 : 0);
            if (!stands) {
                due("fault() of \"" + begin + sign + "\"", fault, begin.length());
            }
        }
    }

    /** Carries orders out, and compares with the calls that they stand for. */
    private void does(String text, int done, Call calls) {
        SilentDrives x = withText(text);
        due("carryOut() of " + text, x.carryOut(), done);
        SilentDrives same = new SilentDrives();
        calls.on(same);
        same("the state behind " + text, Looks.state(x), Looks.state(same));
    }

    // ---- Terms

    private static SilentDrives withLength(int length) {
        return withText("t1;".repeat(27).substring(0, length));
    }

    @Sentence(in = "Texts", says = "The pad is a text of at most 80 characters, a row of orders:")
    void eightyCharacters() {
        SilentDrives x = withLength(79);
        due("put on 79 characters", x.put('9'), 80);
        due("fault() of 80 characters", x.fault(), NONE);
        changesNothing("put on 80 characters", () -> withLength(80), y -> y.put('9'), TOO_MANY);
        due("carryOut() of 80 characters", x.carryOut(), 27);
        due("the minute of now", x.count(0), 26 + 9);
    }

    @Sentence(in = "Texts", says = "text = order { \";\" order }")
    void aRowOfOrders() {
        next("", ORDERS);
        next("t0", ";");
        next("t0;", ORDERS);
        next("t0;t0", ";");
        fault("t1", NONE);
        fault("t1;t2", NONE);
        fault("t1;t2;t3", NONE);
        fault("", 0);
        fault(";", 0);
        fault("t1;", 3);
        fault(";t1", 0);
        fault("t1;;t2", 3);
        fault("t1t2", 2);
        fault("t1,t2", 2);
    }

    @Sentence(in = "Texts", says = "order = \"s\" drive \"@\" number")
    void orderS() {
        next("s", "0123");
        next("s0", "@");
        next("s3@", DIGITS);
        next("s0@0", ";");
        next("s0@1", DIGITS + ";");
        next("s0@99", DIGITS + ";");
        next("s0@999", ";");
    }

    @Sentence(in = "Texts", says = "| \"g\" drive \"@\" number")
    void orderG() {
        next("g", "0123");
        next("g1", "@");
        next("g3@", DIGITS);
        next("g0@0", ";");
        next("g0@9", DIGITS + ";");
        next("g0@10", DIGITS + ";");
        next("g0@100", ";");
    }

    @Sentence(in = "Texts", says = "| \"w\" drive \"*\" number")
    void orderW() {
        next("w", "0123");
        next("w2", "*");
        next("w3*", DIGITS);
        next("w0*0", ";");
        next("w0*2", DIGITS + ";");
        next("w0*20", DIGITS + ";");
        next("w0*200", ";");
    }

    @Sentence(in = "Texts", says = "| \"v\" drive \"/\" number \"*\" number")
    void orderV() {
        next("v", "0123");
        next("v3", "/");
        next("v0/", DIGITS);
        next("v0/0", "*");
        next("v0/6", DIGITS + "*");
        next("v0/60", DIGITS + "*");
        next("v0/600", "*");
        next("v0/6*", DIGITS);
        next("v0/6*0", ";");
        next("v0/6*2", DIGITS + ";");
        next("v0/6*20", DIGITS + ";");
        next("v0/6*200", ";");
        next("v0/600*200", ";");
    }

    @Sentence(in = "Texts", says = "| \"t\" number")
    void orderT() {
        next("t", DIGITS);
        next("t0", ";");
        next("t6", DIGITS + ";");
        next("t60", DIGITS + ";");
        next("t600", ";");
    }

    @Sentence(in = "Texts", says = "\"s\": sell() an hour of a drive;")
    void sSells() {
        does("s0@1;s3@99", 2, x -> x.sell(0, 1) + x.sell(3, 99));
        does("s0@0;t1", 0, x -> 0);
        does("s3@100;t1", 0, x -> 0);
        does("s1@5;s1@5;t1", 1, x -> x.sell(1, 5));
    }

    @Sentence(in = "Texts", says = "\"g\": giveBack() one;")
    void gGivesBack() {
        does("s0@1;s0@99;g0@1;g0@99", 4, x -> x.sell(0, 1) + x.giveBack(0, 1) + x.sell(0, 99) + x.giveBack(0, 99));
        does("s2@7;s3@7;g3@7", 3, x -> x.sell(2, 7));
        does("g0@1;t1", 0, x -> 0);
        does("g0@100;t1", 0, x -> 0);
    }

    @Sentence(in = "Texts", says = "\"w\": write() so many units;")
    void wWrites() {
        does("w0*1;w3*200", 2, x -> x.write(0, 1) + x.write(3, 200));
        does("w0*0;t1", 0, x -> 0);
        does("w0*201;t1", 0, x -> 0);
    }

    @Sentence(in = "Texts", says = "\"v\": stream(), every so many minutes so many units;")
    void vIsAStream() {
        does("v0/1*20;v3/60*0", 2, x -> x.stream(0, 1, 20) + x.stream(3, 60, 0));
        does("v2/60*20;v1/2*3", 2, x -> x.stream(2, 60, 20) + x.stream(1, 2, 3));
        does("v0/0*1;t1", 0, x -> 0);
        does("v0/61*1;t1", 0, x -> 0);
        does("v0/1*21;t1", 0, x -> 0);
    }

    @Sentence(in = "Texts", says = "\"t\": pass() so many minutes.")
    void tPasses() {
        does("t1", 1, x -> x.pass(1));
        does("t600;t600", 2, x -> x.pass(600) + x.pass(600));
        does("t0;w0*1", 0, x -> 0);
        does("t601;w0*1", 0, x -> 0);
    }

    @Sentence(in = "Texts", says = "A drive is a digit from 0 to 3.")
    void drivesAreDigits() {
        for (char order : new char[] {'s', 'g', 'w', 'v'}) {
            next("" + order, "0123");
            fault(order + "4", 1);
            fault(order + "00", 2);
            fault(order + "/", 1);
        }
        does("w0*1;w1*2;w2*3;w3*4", 4, x -> x.write(0, 1) + x.write(1, 2) + x.write(2, 3) + x.write(3, 4));
    }

    /** Each number of an order, with what can stand ahead of it and behind it. */
    private static final String[] AHEAD = {"s0@", "g1@", "w2*", "v3/", "v3/1*", "t"};
    private static final String[] BEHIND = {"", "", "", "*1", "", ""};

    @Sentence(in = "Texts", says = "A number is 0 to 999, without leading zeros.")
    void numbersFrom0To999() {
        for (int i = 0; i < AHEAD.length; i++) {
            int at = AHEAD[i].length();
            for (String number : new String[] {"0", "1", "9", "10", "19", "90", "99", "100", "109", "190", "900", "998", "999"}) {
                fault(AHEAD[i] + number + BEHIND[i], NONE);
            }
            for (String number : new String[] {"00", "01", "09", "000", "010"}) {
                fault(AHEAD[i] + number + BEHIND[i], at + 1);
            }
            for (String number : new String[] {"1000", "1001", "9990", "9999", "10000"}) {
                fault(AHEAD[i] + number + BEHIND[i], at + 3);
            }
            for (String number : new String[] {"-1", "+1", ".5", "x"}) {
                fault(AHEAD[i] + number + BEHIND[i], at);
            }
        }
        does("w0*1;w1*10;w2*109;w3*190", 4, x -> x.write(0, 1) + x.write(1, 10) + x.write(2, 109) + x.write(3, 190));
    }

    private static final String FAULT = "The fault is the index of the first character that cannot stand at its place when the text is"
            + " read from left to right (also of a digit by which a number would be above 999);";

    @Sentence(in = "Texts", says = FAULT)
    void theFirstCharacterThatCannotStand() {
        fault("x", 0);
        fault("xy", 0);
        fault("T1", 0);
        fault("t1;x;y", 3);
        fault("s0@1x;t1", 4);
        fault("s0*1", 2);
        fault("g0*1", 2);
        fault("w0@1", 2);
        fault("v0*1", 2);
        fault("v0/1/1", 4);
        fault("v0/1;t1", 4);
        fault("t;t1", 1);
        fault("t@1", 1);
        fault("t1000;x", 4);
        fault("v0/1000*1", 6);
        fault("v0/1*1000", 8);
        fault("t0000", 2);
    }

    @Sentence(in = "Texts", says = FAULT)
    void faultsUpToTheLastCharacter() {
        String good = "t1;".repeat(26) + "t1";
        fault(good, NONE);
        for (int i = 0; i < 80; i++) {
            fault(good.substring(0, i) + "!" + good.substring(i + 1), i);
        }
    }

    @Sentence(in = "Texts", says = "if there is none and the text ends too early (also if it is empty), it is the length of the text.")
    void textsThatEndTooEarly() {
        fault("", 0);
        String[] begins = {"s", "s0", "s0@", "g", "g1", "g1@", "w", "w2", "w2*", "v", "v3", "v3/", "v3/1", "v3/12", "v3/123", "v3/0",
            "v3/1*", "t", "t1;", "t1;s", "t1;s0", "t1;s0@"};
        for (String begin : begins) {
            fault(begin, begin.length());
            due("carryOut() of " + begin, withText(begin).carryOut(), BAD_TEXT);
        }
        fault("t12;".repeat(20), 80);
        fault("t1;".repeat(26) + "t", 79);
        fault("t1;".repeat(26) + "s0", 80);
    }

    // ---- 19: put

    @Sentence(in = "Promise 19: put", says = "Appends characters to the pad.")
    void putAppends() {
        SilentDrives x = new SilentDrives();
        x.put('t');
        x.put('1');
        x.put(Looks.number("2;t"));
        due("fault()", x.fault(), 5);
        x.put('3');
        due("fault()", x.fault(), NONE);
        due("carryOut()", x.carryOut(), 2);
        due("the minute of now", x.count(0), 15);
        due("put on the pad that was emptied", x.put(Looks.number("t1")), 2);
        due("carryOut()", x.carryOut(), 1);
        due("the minute of now", x.count(0), 16);
    }

    @Sentence(in = "Promise 19: put", says = "They are given as a number: its lowest 8 bits are the last character, the next 8 bits the"
            + " one before, and so on;")
    void theLowestBitsAreTheLastCharacter() {
        SilentDrives x = new SilentDrives();
        x.put(0x7431);
        due("fault() of \"t1\"", x.fault(), NONE);
        SilentDrives y = new SilentDrives();
        y.put(0x3174);
        due("fault() of \"1t\"", y.fault(), 0);
        String text = "v1/23*14";
        SilentDrives z = new SilentDrives();
        due("put of 8 characters", z.put(0x76312F32332A3134L), 8);
        due("carryOut()", z.carryOut(), 1);
        due("minutes of the stream", z.ofDrive(1, 12), 23);
        due("units of the stream", z.ofDrive(1, 13), 14);
        for (int length = 1; length <= 8; length++) {
            SilentDrives once = new SilentDrives();
            SilentDrives oneByOne = new SilentDrives();
            once.put(Looks.number(text.substring(0, length)));
            for (int i = 0; i < length; i++) {
                oneByOne.put(text.charAt(i));
            }
            due("fault() of " + length + " characters", once.fault(), oneByOne.fault());
            due("the length", once.count(13), length);
        }
    }

    private static final String ENDS = "8 bits that are 0 mean that there are no more characters, and everything above them has to be 0,"
            + " too.";

    @Sentence(in = "Promise 19: put", says = ENDS)
    void nothingStandsAboveTheEnd() {
        due("put of one character, and 56 bits that are 0", new SilentDrives().put('t'), 1);
        due("put of 7 characters, and 8 bits that are 0", new SilentDrives().put(Looks.number("t1;t1;t")), 7);
        for (int characters = 0; characters < 8; characters++) {
            long good = characters == 0 ? 0 : Looks.number("12345678".substring(0, characters));
            for (int bit = 8 * characters + 8; bit < 64; bit++) {
                long bad = good | 1L << bit;
                due("put of " + characters + " characters with the bit " + bit, new SilentDrives().put(bad), BAD_VALUE);
            }
        }
        changesNothing("put of \"t\", 8 bits that are 0, and \"1\"", Tests::busy, x -> x.put(0x740031L), BAD_VALUE);
        changesNothing("put of \"t\" and 8 bits that are 0", Tests::busy, x -> x.put(0x7400L), BAD_VALUE);
    }

    @Sentence(in = "Promise 19: put", says = "`characters`: 1 to 8 characters")
    void oneToEightCharacters() {
        due("put of one character", new SilentDrives().put('t'), 1);
        due("put of 8 characters", new SilentDrives().put(Looks.number("t1;t1;t1")), 8);
        changesNothing("put(0)", Tests::busy, x -> x.put(0), BAD_VALUE);
    }

    @Sentence(in = "Promise 19: put", says = "Returns the length of the pad then;")
    void putReturnsTheLength() {
        SilentDrives x = new SilentDrives();
        for (int i = 1; i <= 80; i++) {
            due("put of one character", x.put('t'), i);
        }
        x.wipe();
        for (int i = 1; i <= 10; i++) {
            due("put of 8 characters", x.put(Looks.number("t1;t1;t1")), 8 * i);
        }
    }

    private static final String BAD = "BAD_VALUE if there is no character, a code is not 33 to 126, or a bit above 8 bits that are 0 is"
            + " not 0;";

    @Sentence(in = "Promise 19: put", says = BAD)
    void codesFrom33To126() {
        for (int place = 0; place < 8; place++) {
            for (int code = 0; code < 256; code++) {
                long others = Looks.number("12345678") & ~(255L << 8 * place);
                // 8 bits that are 0 at the top mean that there are 7 characters; elsewhere something is above them.
                int due = code >= 33 && code <= 126 ? 8 : code == 0 && place == 7 ? 7 : BAD_VALUE;
                due("put of the code " + code + " at the place " + place, new SilentDrives().put(others | (long) code << 8 * place), due);
            }
        }
        for (int code = -1; code < 256; code++) {
            due("put of the code " + code + " alone", new SilentDrives().put(code), code >= 33 && code <= 126 ? 1 : BAD_VALUE);
        }
    }

    @Sentence(in = "Promise 19: put", says = BAD)
    void badPutsChangeNothing() {
        for (long bad : new long[] {0, -1, 1, 32, 127, 128, 255, 0x7420, 0x2074, 0x7f31, 0x7400, Long.MIN_VALUE, Long.MAX_VALUE}) {
            changesNothing("put(" + bad + ")", Tests::busy, x -> x.put(bad), BAD_VALUE);
        }
    }

    @Sentence(in = "Promise 19: put", says = "TOO_MANY if the pad would be longer than 80.")
    void noPadIsLongerThan80() {
        for (int length = 1; length <= 8; length++) {
            long characters = Looks.number(";t1;t1;t".substring(0, length));
            int fits = 80 - length;
            due("put of " + length + " on " + fits, withLength(fits).put(characters), 80);
            changesNothing("put of " + length + " on " + (fits + 1), () -> withLength(fits + 1), x -> x.put(characters), TOO_MANY);
            changesNothing("put of " + length + " on 80", () -> withLength(80), x -> x.put(characters), TOO_MANY);
        }
        SilentDrives x = withLength(79);
        due("put of 2 on 79", x.put(Looks.number("12")), TOO_MANY);
        due("the length behind it", x.count(13), 79);
        due("put of 1 on 79", x.put('3'), 80);
        due("carryOut()", x.carryOut(), 27);
        due("the minute of now", x.count(0), 29);
    }

    // ---- 20: wipe

    @Sentence(in = "Promise 20: wipe", says = "Empties the pad, and returns the length that it had.")
    void wipeFromNothingToTheFullPad() {
        for (int length : new int[] {0, 1, 79, 80}) {
            SilentDrives x = withLength(length);
            due("wipe() of " + length, x.wipe(), length);
            due("the length behind it", x.count(13), 0);
            due("fault() behind it", x.fault(), 0);
            due("wipe() again", x.wipe(), 0);
            x.put('t');
            due("fault() of what was put behind it", x.fault(), 1);
            due("changes", x.count(14), 0);
        }
    }

    @Sentence(in = "Promise 20: wipe", says = "Empties the pad, and returns the length that it had.")
    void wipeOfNothingChangesNothing() {
        changesNothing("wipe() of the empty pad", () -> {
            SilentDrives x = busy();
            x.wipe();
            return x;
        }, x -> x.wipe(), 0);
        // But for the pad all stays as it was.
        SilentDrives x = busy();
        String state = Looks.state(x);
        x.wipe();
        same("the state behind wipe()", Looks.state(x), state);
    }

    // ---- 21: fault

    @Sentence(in = "Promise 21: fault", says = "Returns the fault of the pad, NONE if there is none.")
    void faultAnswersAndChangesNothing() {
        due("fault() of the empty pad", new SilentDrives().fault(), 0);
        SilentDrives x = withText("t1");
        due("fault() of a good text", x.fault(), NONE);
        due("fault() again", x.fault(), NONE);
        due("carryOut() behind it", x.carryOut(), 1);
        due("fault() of the emptied pad", x.fault(), 0);
        changesNothing("fault() of a good text", Tests::full, y -> y.fault(), NONE);
        changesNothing("fault() of a text that has to go on", Tests::busy, y -> y.fault(), 8);
        changesNothing("fault() of a bad text", () -> withText("t1;x"), y -> y.fault(), 3);
    }

    // ---- 22: carryOut

    @Sentence(in = "Promise 22: carryOut", says = "Carries the orders of the pad out, one after the other,")
    void oneOrderAfterTheOther() {
        does("s2@1;s3@1;g3@1;w1*200;v3/60*20;t61", 6, x -> x.sell(2, 1) + x.write(1, 200) + x.stream(3, 60, 20) + x.pass(61));
        // Were they carried out in another order, the hour would not be later than that of now, or could not be given back.
        does("s0@1;t59;g0@1;t1;s0@2", 5, x -> x.pass(60) + x.sell(0, 2));
        SilentDrives most = withText("t1;".repeat(26) + "t1");
        due("carryOut() of 27 orders", most.carryOut(), 27);
        due("the minute of now", most.count(0), 27);
    }

    @Sentence(in = "Promise 22: carryOut", says = "up to the first one that returns an error, and empties the pad.")
    void upToTheFirstError() {
        String[] errors = {"t0", "t601", "w0*0", "w0*201", "v0/0*1", "v0/61*1", "v0/1*21", "s0@0", "s0@100", "g0@1", "g0@999"};
        for (String error : errors) {
            for (String text : new String[] {error, "t1;" + error, error + ";t1", "t1;" + error + ";t1", "t1;t1;" + error + ";" + error}) {
                int done = text.startsWith("t1;t1;") ? 2 : text.startsWith("t1;") ? 1 : 0;
                SilentDrives x = withText(text);
                due("carryOut() of " + text, x.carryOut(), done);
                due("the length of the pad behind " + text, x.count(13), 0);
                SilentDrives same = atMinute(done);
                same("the state behind " + text, Looks.state(x), Looks.state(same));
            }
        }
        SilentDrives held = new SilentDrives();
        for (int i = 0; i < 49; i++) {
            held.write(1, 200);
        }
        Looks.put(held, "w1*199;w1*1;t1");
        due("carryOut() up to TOO_MANY", held.carryOut(), 1);
        due("held", held.ofDrive(1, 3), 9999);
        due("the minute of now", held.count(0), 0);
    }

    @Sentence(in = "Promise 22: carryOut", says = "This is a change (one, with all of them; also if none is carried out).")
    void carryOutIsOneChange() {
        isAChange("carryOut() of three orders", () -> withText("t1;w0*9;t2"), x -> x.carryOut());
        isAChange("carryOut() of which none is carried out", () -> withText("t0;t1"), x -> x.carryOut());
        isAChange("carryOut() of 27 orders", Tests::full, x -> x.carryOut());
        SilentDrives x = new SilentDrives();
        x.write(0, 7);
        Looks.put(x, "t1;t2;w1*5");
        due("carryOut()", x.carryOut(), 3);
        due("changes", x.count(14), 2);
        Looks.put(x, "t0");
        due("carryOut()", x.carryOut(), 0);
        due("changes", x.count(14), 3);
        due("undo() of nothing carried out", x.undo(), 2);
        due("the minute of now", x.count(0), 3);
        due("undo() of three orders", x.undo(), 1);
        due("the minute of now", x.count(0), 0);
        due("held by 0", x.ofDrive(0, 3), 7);
        due("held by 1", x.ofDrive(1, 3), 0);
    }

    @Sentence(in = "Promise 22: carryOut", says = "Returns how many orders were carried out; BAD_TEXT if the pad has a fault (then it"
            + " stays).")
    void carryOutOfAFault() {
        for (String text : new String[] {"", "x", "t1;x", "t1;t2;", "t1;t2;t", "t1;t1000", "w0*5;t1;s", "t1;".repeat(26) + "t!"}) {
            changesNothing("carryOut() of \"" + text + "\"", () -> {
                SilentDrives x = new SilentDrives();
                x.write(0, 7);
                Looks.put(x, text);
                return x;
            }, x -> x.carryOut(), BAD_TEXT);
            SilentDrives y = withText(text);
            y.carryOut();
            due("the length of the pad behind it", y.count(13), text.length());
        }
        SilentDrives x = withText("t1;t");
        due("carryOut() of a text that has to go on", x.carryOut(), BAD_TEXT);
        x.put('2');
        due("carryOut() of the text, which stayed", x.carryOut(), 2);
        due("the minute of now", x.count(0), 3);
    }
}
