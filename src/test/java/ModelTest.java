import java.util.Random;

/** Runs of 512 calls, good and bad ones, whose answers have to be those of the model; the runs are always the same. */
public final class ModelTest {
    private static final int RUNS = 3000;
    /** What an object is used for: behind it the document promises nothing. */
    private static final int CALLS = 512;
    /** The calls of the look at the end, and as many as a step may take. */
    private static final int LAST_LOOK = 4 * 14 + 4 * 3 + 15;
    private static final int LONGEST_STEP = 30;
    private static final Check CHECK = new Check("ModelTest");

    private final Random random;
    private final SilentDrives x = new SilentDrives();
    private final Model model = new Model();
    // Some runs are full of units and sold hours, some let more time pass: a call of each run has its own chances.
    private final int busy;
    private final int hurry;
    private int calls = 0;

    private ModelTest(int run) {
        random = new Random(run);
        busy = random.nextInt(4);
        hurry = random.nextInt(4);
    }

    public static void main(String[] args) {
        for (int run = 0; run < RUNS; run++) {
            ModelTest test = new ModelTest(run);
            while (test.calls + LONGEST_STEP + LAST_LOOK <= CALLS) {
                test.step("run " + run + ", call " + test.calls + ": ");
            }
            test.lookAtAll("run " + run + ", at its end: ");
            CHECK.due("run " + run + ": more calls than an object is good for", test.calls > CALLS ? 1 : 0, 0);
        }
        CHECK.end();
    }

    private int below(int bound) {
        return random.nextInt(bound);
    }

    private int drive() {
        return below(40) == 0 ? far() : below(4);
    }

    private int far() {
        int[] values = {-1, 4, 61, 100, 601, -77, 10000, Integer.MIN_VALUE, Integer.MAX_VALUE};
        return values[below(values.length)];
    }

    private int hourNearNow() {
        return below(20) == 0 ? far() : below(5) == 0 ? below(100) : model.count(1) + below(6) - 1;
    }

    private int minutes() {
        if (below(20) == 0) {
            return far();
        }
        int[] most = {5, 60, 130, 600};
        return 1 + below(most[below(1 + hurry)]);
    }

    private void due(String call, long got, long want) {
        calls++;
        CHECK.due(call, got, want);
    }

    private void step(String at) {
        int kind = below(100);
        if (kind < 60) {
            change(at, below(20));
        } else if (kind < 80) {
            look(at);
        } else if (kind < 88) {
            ask(at);
        } else if (kind < 97) {
            text(at);
        } else {
            save(at);
        }
    }

    private void change(String at, int kind) {
        int d = drive();
        if (kind < 2) {
            int setting = below(30) == 0 ? far() : below(7);
            int value = below(10) == 0 ? far() : below(setting == 0 ? 1000 : setting == 2 ? 10 : setting == 5 ? 21 : 61);
            due(at + "set(" + setting + ", " + value + ")", x.set(setting, value), model.set(setting, value));
        } else if (kind < 4) {
            int every = below(20) == 0 ? far() : 1 + below(below(3) == 0 ? 60 : 10);
            int units = below(20) == 0 ? far() : below(busy > 1 ? 21 : 6);
            due(at + "stream(" + d + ", " + every + ", " + units + ")", x.stream(d, every, units),
                    model.stream(d, every, units));
        } else if (kind < 8) {
            int units = below(20) == 0 ? far() : 1 + below(busy > 0 ? 200 : 70);
            due(at + "write(" + d + ", " + units + ")", x.write(d, units), model.write(d, units));
        } else if (kind < 12) {
            int hour = hourNearNow();
            due(at + "sell(" + d + ", " + hour + ")", x.sell(d, hour), model.sell(d, hour));
        } else if (kind < 13) {
            int hour = hourNearNow();
            due(at + "giveBack(" + d + ", " + hour + ")", x.giveBack(d, hour), model.giveBack(d, hour));
        } else if (kind < 18) {
            int minutes = minutes();
            due(at + "pass(" + minutes + ")", x.pass(minutes), model.pass(minutes));
        } else {
            due(at + "undo()", x.undo(), model.undo());
        }
    }

    private void look(String at) {
        int d = drive();
        int what = below(20) == 0 ? far() : below(15);
        int hour = hourNearNow() - below(8);
        due(at + "ofDrive(" + d + ", " + what + ")", x.ofDrive(d, what), model.ofDrive(d, what));
        due(at + "hour(" + d + ", " + hour + ")", x.hour(d, hour), model.hour(d, hour));
        due(at + "streak(" + d + ")", x.streak(d), model.streak(d));
        due(at + "share(" + d + ")", x.share(d), model.share(d));
        due(at + "mean(" + d + ")", x.mean(d), model.mean(d));
        due(at + "count(" + what + ")", x.count(what), model.count(what));
    }

    private void lookAtAll(String at) {
        for (int drive = 0; drive < 4; drive++) {
            for (int number = 0; number < 14; number++) {
                due(at + "ofDrive(" + drive + ", " + number + ")", x.ofDrive(drive, number), model.ofDrive(drive, number));
            }
            due(at + "streak(" + drive + ")", x.streak(drive), model.streak(drive));
            due(at + "share(" + drive + ")", x.share(drive), model.share(drive));
            due(at + "mean(" + drive + ")", x.mean(drive), model.mean(drive));
        }
        for (int number = 0; number < 15; number++) {
            due(at + "count(" + number + ")", x.count(number), model.count(number));
        }
    }

    private void ask(String at) {
        int d = drive();
        int minutes = minutes();
        int hours = below(10) == 0 ? far() : 1 + below(10);
        switch (below(5)) {
            case 0:
                due(at + "loudIn(" + d + ", " + minutes + ")", x.loudIn(d, minutes), model.loudIn(d, minutes));
                break;
            case 1:
                due(at + "freeIn(" + d + ", " + minutes + ")", x.freeIn(d, minutes), model.freeIn(d, minutes));
                break;
            case 2:
                due(at + "mostHeld(" + d + ", " + minutes + ")", x.mostHeld(d, minutes), model.mostHeld(d, minutes));
                break;
            case 3:
                due(at + "firstSafe(" + d + ")", x.firstSafe(d), model.firstSafe(d));
                break;
            default:
                due(at + "leastRoom(" + hours + ")", x.leastRoom(hours), model.leastRoom(hours));
        }
    }

    private void text(String at) {
        String text = orders();
        for (int i = 0; i < text.length(); i += 8) {
            long number = Looks.number(text.substring(i, Math.min(i + 8, text.length())));
            if (below(60) == 0) {
                number ^= 1L << below(64);
            }
            due(at + "put(" + number + ")", x.put(number), model.put(number));
            due(at + "fault()", x.fault(), model.fault());
        }
        if (below(4) > 0) {
            due(at + "carryOut()", x.carryOut(), model.carryOut());
        }
        if (below(3) > 0) {
            due(at + "wipe()", x.wipe(), model.wipe());
        }
    }

    private String orders() {
        StringBuilder text = new StringBuilder();
        for (int left = below(6); left >= 0; left--) {
            int d = below(4);
            int hour = model.count(1) + below(4);
            switch (below(5)) {
                case 0: text.append('s').append(d).append('@').append(hour); break;
                case 1: text.append('g').append(d).append('@').append(hour); break;
                case 2: text.append('w').append(d).append('*').append(below(220)); break;
                case 3: text.append('v').append(d).append('/').append(below(62)).append('*').append(below(22)); break;
                default: text.append('t').append(below(20) == 0 ? below(1000) : below(90));
            }
            text.append(left > 0 || below(9) == 0 ? ";" : "");
        }
        for (int slips = below(3) == 0 ? 1 + below(2) : 0; slips > 0 && text.length() > 1; slips--) {
            int place = below(text.length());
            char sign = below(8) == 0 ? (char) (33 + below(94)) : "sgwvt@*/;0123456789".charAt(below(19));
            switch (below(3)) {
                case 0: text.setCharAt(place, sign); break;
                case 1: text.insert(place, sign); break;
                default: text.deleteCharAt(place);
            }
        }
        return text.toString();
    }

    private void save(String at) {
        int slot = below(20) == 0 ? far() : below(2);
        if (below(2) == 0) {
            due(at + "save(" + slot + ")", x.save(slot), model.save(slot));
        } else {
            due(at + "restore(" + slot + ")", x.restore(slot), model.restore(slot));
        }
    }
}
