// Drives whose hours of silence are sold to a radio station: ../shared/DOC.md says what each call does.
public final class SilentDrives {
    public static final int NO_SUCH = -1, BAD_VALUE = -2, BAD_TEXT = -3, TOO_MANY = -4, NOT_POSSIBLE = -5, NONE = -6;
    public static final int PRICE = 0, FINE = 1, BONUS = 2, LOW = 3, HIGH = 4, SPEED = 5, ROOM = 6;

    private static final int OK = 0;
    private static final int DRIVES = 4, CELLS = 60;
    private static final int HOURS = 100, HOUR_MINUTES = 60, SEARCHED_HOURS = 24, MOST_ROOM_HOURS = 10;
    private static final int NOT_SOLD = 0, SOLD = 1, KEPT = 2, SPOILED = 3;
    private static final int SETTINGS = 7, SLOTS = 2, HISTORY_STATES = 6;
    private static final int MOST_PASSED = 600, MOST_BROUGHT = 200, MOST_HELD = 9999;
    private static final int MOST_EVERY = 60, MOST_UNITS = 20;
    private static final int PAD_SIGNS = 80, PUT_SIGNS = 8, LEAST_SIGN = 33, MOST_SIGN = 126;
    private static final int NO_NUMBER = -1;
    private static final char NO_SIGN = 0;

    // Each in the order of the settings' numbers, PRICE to ROOM.
    private static final int[] LEAST_VALUES = {0, 0, 0, 0, 0, 1, 0};
    private static final int[] MOST_VALUES = {999, 99, 9, 60, 60, 20, 60};
    private static final int[] FIRST_VALUES = {60, 5, 2, 20, 50, 4, 20};

    private static final int DOUBLE_FRACTION_BITS = 52, DOUBLE_BIAS = 1023;
    private static final int FLOAT_FRACTION_BITS = 23, FLOAT_BIAS = 127;

    private final Station present = new Station();
    private final History history = new History();
    private final Station[] slots = new Station[SLOTS];
    private final boolean[] slotUsed = new boolean[SLOTS];
    private final Pad pad = new Pad();
    // Kept for good and written over by each question, so that no question makes an object.
    private final Station trial = new Station();
    private final Station soldTrial = new Station();

    public SilentDrives() {
        for (int slot = 0; slot < SLOTS; slot++) {
            slots[slot] = new Station();
        }
    }

    // ---- changes

    public int set(int setting, int value) {
        history.prepare(present);
        return recorded(present.changeSetting(setting, value));
    }

    public int stream(int drive, int every, int units) {
        history.prepare(present);
        return recorded(present.changeStream(drive, every, units));
    }

    public int write(int drive, int units) {
        history.prepare(present);
        return recorded(present.bringUnits(drive, units));
    }

    public int sell(int drive, int hour) {
        history.prepare(present);
        return recorded(present.sellHour(drive, hour));
    }

    public int giveBack(int drive, int hour) {
        history.prepare(present);
        return recorded(present.takeHourBack(drive, hour));
    }

    public int pass(int minutes) {
        history.prepare(present);
        return recorded(present.passMinutes(minutes));
    }

    // ---- what there is

    public int ofDrive(int drive, int what) {
        if (!isDrive(drive)) {
            return NO_SUCH;
        }
        Drive asked = present.drives[drive];
        switch (what) {
            case 0: return asked.free;
            case 1: return asked.stale;
            case 2: return asked.lent;
            case 3: return asked.held;
            case 4: return asked.isQuietIn(present.hourOfNow()) ? 1 : 0;
            case 5: return asked.cleaning ? 1 : 0;
            case 6: return asked.written;
            case 7: return asked.sounded;
            case 8: return asked.overruns;
            case 9: return asked.soldHours();
            case 10: return asked.hoursThatAre(KEPT);
            case 11: return asked.hoursThatAre(SPOILED);
            case 12: return asked.every;
            case 13: return asked.units;
            default: return BAD_VALUE;
        }
    }

    public int hour(int drive, int hour) {
        if (!isDrive(drive)) {
            return NO_SUCH;
        }
        return isHour(hour) ? present.drives[drive].hourState(hour) : BAD_VALUE;
    }

    public int streak(int drive) {
        return isDrive(drive) ? present.drives[drive].keptInARow() : NO_SUCH;
    }

    public int share(int drive) {
        if (!isDrive(drive)) {
            return NO_SUCH;
        }
        int kept = present.drives[drive].hoursThatAre(KEPT);
        int ended = kept + present.drives[drive].hoursThatAre(SPOILED);
        return ended > 0 ? floatBits((float) ((double) kept / (double) ended)) : NONE;
    }

    public long mean(int drive) {
        if (!isDrive(drive)) {
            return NO_SUCH;
        }
        int minutes = present.now;
        return minutes > 0 ? doubleBits((double) present.drives[drive].heldSum / (double) minutes) : 0L;
    }

    public int count(int what) {
        if (what >= 6 && what < 6 + SETTINGS) {
            return present.settings[what - 6];
        }
        switch (what) {
            case 0: return present.now;
            case 1: return present.hourOfNow();
            case 2: return present.earned;
            case 3: return present.fined;
            case 4: return present.credits;
            case 5: return present.creditsUsed;
            case 13: return pad.length;
            case 14: return history.size;
            default: return BAD_VALUE;
        }
    }

    // ---- what if; nothing changes

    public int loudIn(int drive, int minutes) {
        int error = errorOfQuestion(drive, minutes);
        if (error != OK) {
            return error;
        }
        tryMinutes(minutes);
        return trial.drives[drive].overruns - present.drives[drive].overruns;
    }

    public int freeIn(int drive, int minutes) {
        int error = errorOfQuestion(drive, minutes);
        if (error != OK) {
            return error;
        }
        tryMinutes(minutes);
        return trial.drives[drive].free;
    }

    public int mostHeld(int drive, int minutes) {
        int error = errorOfQuestion(drive, minutes);
        if (error != OK) {
            return error;
        }
        trial.copyFrom(present);
        int most = 0;
        for (int i = 0; i < minutes; i++) {
            trial.passOneMinute();
            most = Math.max(most, trial.drives[drive].held);
        }
        return most;
    }

    public int firstSafe(int drive) {
        if (!isDrive(drive)) {
            return NO_SUCH;
        }
        trial.copyFrom(present);
        int before = present.hourOfNow();
        int last = Math.min(before + SEARCHED_HOURS, HOURS - 1);
        for (int hour = before + 1; hour <= last; hour++) {
            // A sold hour changes nothing before it begins, so all hours are tried from one run of time.
            trial.passMinutes(hour * HOUR_MINUTES - trial.now);
            if (trial.drives[drive].hourState(hour) == NOT_SOLD) {
                soldTrial.copyFrom(trial);
                soldTrial.drives[drive].markHour(hour, SOLD);
                if (soldTrial.passesWithoutOverrun(HOUR_MINUTES)) {
                    return hour;
                }
            }
        }
        return NONE;
    }

    public int leastRoom(int hours) {
        if (hours < 1 || hours > MOST_ROOM_HOURS) {
            return BAD_VALUE;
        }
        for (int room = LEAST_VALUES[ROOM]; room <= MOST_VALUES[ROOM]; room++) {
            trial.copyFrom(present);
            trial.settings[ROOM] = room;
            if (trial.passesWithoutOverrun(hours * HOUR_MINUTES)) {
                return room;
            }
        }
        return NONE;
    }

    // ---- texts

    public int put(long characters) {
        int signs = signsIn(characters);
        if (signs == 0) {
            return BAD_VALUE;
        }
        if (pad.length + signs > PAD_SIGNS) {
            return TOO_MANY;
        }
        pad.append(characters, signs);
        return pad.length;
    }

    public int wipe() {
        int length = pad.length;
        pad.length = 0;
        return length;
    }

    public int fault() {
        return pad.firstFault();
    }

    public int carryOut() {
        if (pad.firstFault() != NONE) {
            return BAD_TEXT;
        }
        history.prepare(present);
        history.keepPrepared();
        pad.begin();
        int done = 0;
        while (done < PAD_SIGNS && pad.readNext() && carryOutOrder() >= 0) {
            done++;
        }
        pad.length = 0;
        return done;
    }

    // ---- undo, saving

    public int undo() {
        if (history.size == 0) {
            return NOT_POSSIBLE;
        }
        history.bringBackLatest(present);
        return history.size;
    }

    public int save(int slot) {
        if (!isSlot(slot)) {
            return BAD_VALUE;
        }
        slots[slot].copyFrom(present);
        slotUsed[slot] = true;
        return present.now;
    }

    public int restore(int slot) {
        if (!isSlot(slot)) {
            return BAD_VALUE;
        }
        if (!slotUsed[slot]) {
            return NOT_POSSIBLE;
        }
        history.prepare(present);
        present.copyFrom(slots[slot]);
        return recorded(present.now);
    }

    // ---- what the calls share

    /** Keeps the prepared state in the history, but not for a call that answers an error. */
    private int recorded(int answer) {
        if (answer >= 0) {
            history.keepPrepared();
        }
        return answer;
    }

    /** An order changes the present and records nothing: carryOut() has recorded all of them at once. */
    private int carryOutOrder() {
        switch (pad.kind) {
            case 's': return present.sellHour(pad.drive, pad.first);
            case 'g': return present.takeHourBack(pad.drive, pad.first);
            case 'w': return present.bringUnits(pad.drive, pad.first);
            case 'v': return present.changeStream(pad.drive, pad.first, pad.second);
            default: return present.passMinutes(pad.first);
        }
    }

    private int errorOfQuestion(int drive, int minutes) {
        if (!isDrive(drive)) {
            return NO_SUCH;
        }
        return arePassable(minutes) ? OK : BAD_VALUE;
    }

    private void tryMinutes(int minutes) {
        trial.copyFrom(present);
        trial.passMinutes(minutes);
    }

    private static boolean isDrive(int drive) {
        return drive >= 0 && drive < DRIVES;
    }

    private static int twinOf(int drive) {
        return drive % 2 == 0 ? drive + 1 : drive - 1;
    }

    private static boolean isHour(int hour) {
        return hour >= 0 && hour < HOURS;
    }

    private static boolean isSlot(int slot) {
        return slot >= 0 && slot < SLOTS;
    }

    private static boolean arePassable(int minutes) {
        return minutes >= 1 && minutes <= MOST_PASSED;
    }

    /** How many characters the number is; 0 if it is none, or holds one that cannot be put. */
    private static int signsIn(long characters) {
        long rest = characters;
        int signs = 0;
        while (rest != 0 && signs < PUT_SIGNS) {
            long sign = rest & 255;
            // 8 bits that are 0 end here, too: there is something above them.
            if (sign < LEAST_SIGN || sign > MOST_SIGN) {
                return 0;
            }
            rest >>>= 8;
            signs++;
        }
        return signs;
    }

    /** As Double.doubleToLongBits, which LANGUAGE.md leaves out, for 0 and normal numbers above it. */
    private static long doubleBits(double number) {
        if (!(number > 0.0)) {
            return 0L;
        }
        // Halving and doubling change the exponent alone, so nothing is rounded here.
        double scaled = number;
        int exponent = 0;
        while (scaled >= 2.0 && exponent < DOUBLE_BIAS) {
            scaled = scaled / 2.0;
            exponent++;
        }
        while (scaled < 1.0 && exponent > 1 - DOUBLE_BIAS) {
            scaled = scaled * 2.0;
            exponent--;
        }
        long fraction = (long) ((scaled - 1.0) * (double) (1L << DOUBLE_FRACTION_BITS));
        return ((long) (exponent + DOUBLE_BIAS) << DOUBLE_FRACTION_BITS) + fraction;
    }

    /** As Float.floatToIntBits, for 0 and the numbers from 1/100 to 1. */
    private static int floatBits(float number) {
        long bits = doubleBits((double) number);
        if (bits == 0L) {
            return 0;
        }
        // The double of a float has the float's fraction with zeros behind it.
        long shorter = bits >>> (DOUBLE_FRACTION_BITS - FLOAT_FRACTION_BITS);
        return (int) (shorter - ((long) (DOUBLE_BIAS - FLOAT_BIAS) << FLOAT_FRACTION_BITS));
    }

    /** One drive, with its hours and its stream. */
    private static final class Drive {
        int free = CELLS;
        int stale;
        int lent;
        int held;
        boolean cleaning;
        int written;
        int sounded;
        int overruns;
        int every = 1;
        int units;
        long heldSum;
        private final byte[] hours = new byte[HOURS];

        void copyFrom(Drive other) {
            free = other.free;
            stale = other.stale;
            lent = other.lent;
            held = other.held;
            cleaning = other.cleaning;
            written = other.written;
            sounded = other.sounded;
            overruns = other.overruns;
            every = other.every;
            units = other.units;
            heldSum = other.heldSum;
            System.arraycopy(other.hours, 0, hours, 0, HOURS);
        }

        int hourState(int hour) {
            return isHour(hour) ? hours[hour] : NOT_SOLD;
        }

        void markHour(int hour, int state) {
            if (isHour(hour)) {
                hours[hour] = (byte) state;
            }
        }

        boolean isQuietIn(int hour) {
            return hourState(hour) != NOT_SOLD;
        }

        int hoursThatAre(int state) {
            int found = 0;
            for (int hour = 0; hour < HOURS; hour++) {
                if (hours[hour] == state) {
                    found++;
                }
            }
            return found;
        }

        int soldHours() {
            return HOURS - hoursThatAre(NOT_SOLD);
        }

        int keptInARow() {
            int kept = 0;
            for (int hour = HOURS - 1; hour >= 0 && hours[hour] != SPOILED; hour--) {
                if (hours[hour] == KEPT) {
                    kept++;
                }
            }
            return kept;
        }

        void takeStream(int minute) {
            if (every > 0 && minute % every == 0) {
                held += units;
            }
        }

        void takeBackFrom(Drive twin) {
            int taken = Math.min(twin.lent, free);
            twin.lent -= taken;
            twin.stale += taken;
            fillCells(taken);
        }

        void writeHeld() {
            int fitting = Math.min(held, free);
            held -= fitting;
            fillCells(fitting);
        }

        private void fillCells(int cells) {
            free -= cells;
            stale += cells;
            written += cells;
        }

        void lendTo(Drive twin, int room) {
            if (held > room) {
                int moved = Math.min(held - room, twin.free);
                twin.free -= moved;
                twin.lent += moved;
                held -= moved;
            }
        }

        void cleanCells(int cells) {
            stale -= cells;
            free += cells;
            sounded++;
        }
    }

    /** All that undo() and restore() bring back: the drives, the settings, the time and the money. */
    private static final class Station {
        final int[] settings = new int[SETTINGS];
        final Drive[] drives = new Drive[DRIVES];
        int now;
        int earned;
        int fined;
        int credits;
        int creditsUsed;

        Station() {
            System.arraycopy(FIRST_VALUES, 0, settings, 0, SETTINGS);
            for (int drive = 0; drive < DRIVES; drive++) {
                drives[drive] = new Drive();
            }
        }

        void copyFrom(Station other) {
            System.arraycopy(other.settings, 0, settings, 0, SETTINGS);
            for (int drive = 0; drive < DRIVES; drive++) {
                drives[drive].copyFrom(other.drives[drive]);
            }
            now = other.now;
            earned = other.earned;
            fined = other.fined;
            credits = other.credits;
            creditsUsed = other.creditsUsed;
        }

        int hourOfNow() {
            return now / HOUR_MINUTES;
        }

        int changeSetting(int setting, int value) {
            if (setting < 0 || setting >= SETTINGS) {
                return BAD_VALUE;
            }
            if (value < LEAST_VALUES[setting] || value > MOST_VALUES[setting]) {
                return BAD_VALUE;
            }
            int previous = settings[setting];
            settings[setting] = value;
            return previous;
        }

        int changeStream(int drive, int every, int units) {
            if (!isDrive(drive)) {
                return NO_SUCH;
            }
            if (every < 1 || every > MOST_EVERY || units < 0 || units > MOST_UNITS) {
                return BAD_VALUE;
            }
            int previous = drives[drive].units;
            drives[drive].every = every;
            drives[drive].units = units;
            return previous;
        }

        int bringUnits(int drive, int units) {
            if (!isDrive(drive)) {
                return NO_SUCH;
            }
            if (units < 1 || units > MOST_BROUGHT) {
                return BAD_VALUE;
            }
            if (drives[drive].held > MOST_HELD - units) {
                return TOO_MANY;
            }
            drives[drive].held += units;
            return drives[drive].held;
        }

        int sellHour(int drive, int hour) {
            return changeHour(drive, hour, NOT_SOLD, SOLD);
        }

        int takeHourBack(int drive, int hour) {
            return changeHour(drive, hour, SOLD, NOT_SOLD);
        }

        private int changeHour(int drive, int hour, int from, int to) {
            if (!isDrive(drive)) {
                return NO_SUCH;
            }
            if (!isHour(hour)) {
                return BAD_VALUE;
            }
            if (hour <= hourOfNow() || drives[drive].hourState(hour) != from) {
                return NOT_POSSIBLE;
            }
            drives[drive].markHour(hour, to);
            return drives[drive].soldHours();
        }

        int passMinutes(int minutes) {
            if (!arePassable(minutes)) {
                return BAD_VALUE;
            }
            for (int i = 0; i < minutes; i++) {
                passOneMinute();
            }
            return now;
        }

        /** Stops at the first overrun. */
        boolean passesWithoutOverrun(int minutes) {
            for (int i = 0; i < minutes; i++) {
                if (passOneMinute()) {
                    return false;
                }
            }
            return true;
        }

        /** Tells whether any drive had an overrun in it. */
        boolean passOneMinute() {
            boolean overrun = false;
            for (int drive = 0; drive < DRIVES; drive++) {
                if (passMinuteOf(drives[drive], drives[twinOf(drive)])) {
                    overrun = true;
                }
            }
            now++;
            return overrun;
        }

        private boolean passMinuteOf(Drive drive, Drive twin) {
            int hour = hourOfNow();
            boolean quiet = drive.isQuietIn(hour);
            if (now % HOUR_MINUTES == 0) {
                settleHours(drive, hour, quiet);
            }
            drive.takeStream(now);
            if (!quiet) {
                drive.takeBackFrom(twin);
            }
            drive.writeHeld();
            if (quiet && !twin.isQuietIn(hour)) {
                drive.lendTo(twin, settings[ROOM]);
            }
            boolean sounds = cleanUp(drive, quiet);
            if (sounds && quiet) {
                chargeOverrun(drive, hour);
            }
            drive.heldSum += drive.held;
            return sounds && quiet;
        }

        private void settleHours(Drive drive, int hour, boolean quiet) {
            if (drive.hourState(hour - 1) == SOLD) {
                drive.markHour(hour - 1, KEPT);
                credits += settings[BONUS];
            }
            if (quiet) {
                earned += settings[PRICE];
            }
        }

        /** Tells whether the drive sounds. */
        private boolean cleanUp(Drive drive, boolean quiet) {
            boolean wants = quiet ? drive.held > settings[ROOM] : drive.cleaning || drive.free < settings[LOW];
            boolean sounds = wants && drive.stale > 0;
            if (sounds) {
                drive.cleanCells(Math.min(settings[SPEED], drive.stale));
            }
            drive.cleaning = sounds && !quiet && drive.free < settings[HIGH] && drive.stale > 0;
            return sounds;
        }

        private void chargeOverrun(Drive drive, int hour) {
            drive.overruns++;
            drive.markHour(hour, SPOILED);
            if (credits > 0) {
                credits--;
                creditsUsed++;
            } else {
                fined += settings[FINE];
            }
        }
    }

    /** The states before the latest changes. */
    private static final class History {
        // One more than is kept: a state is prepared ahead of a change that may still answer an error.
        private final Station[] states = new Station[HISTORY_STATES + 1];
        private int next;
        int size;

        History() {
            for (int i = 0; i <= HISTORY_STATES; i++) {
                states[i] = new Station();
            }
        }

        void prepare(Station present) {
            states[next].copyFrom(present);
        }

        void keepPrepared() {
            next = next < HISTORY_STATES ? next + 1 : 0;
            size = Math.min(size + 1, HISTORY_STATES);
        }

        void bringBackLatest(Station present) {
            if (size > 0) {
                next = next > 0 ? next - 1 : HISTORY_STATES;
                size--;
                present.copyFrom(states[next]);
            }
        }
    }

    /** The text, and a reader that goes over its orders; where it cannot read on, its place is the fault. */
    private static final class Pad {
        private final char[] signs = new char[PAD_SIGNS];
        int length;
        private int place;
        char kind;
        int drive;
        int first;
        int second;

        void append(long characters, int signCount) {
            for (int i = signCount - 1; i >= 0 && length < PAD_SIGNS; i--) {
                signs[length] = (char) ((characters >>> (8 * i)) & 255);
                length++;
            }
        }

        int firstFault() {
            begin();
            for (int i = 0; i < PAD_SIGNS && readNext(); i++) {
                if (place == length) {
                    return NONE;
                }
            }
            return place;
        }

        void begin() {
            place = 0;
        }

        /** Reads an order, with the ";" ahead of it if it is not the first one. */
        boolean readNext() {
            return (place == 0 || readSign(';')) && readOrder();
        }

        private boolean readOrder() {
            kind = signHere();
            switch (kind) {
                case 's':
                case 'g':
                    return readKindAndDrive() && readSign('@') && readFirst();
                case 'w':
                    return readKindAndDrive() && readSign('*') && readFirst();
                case 'v':
                    return readKindAndDrive() && readSign('/') && readFirst() && readSign('*') && readSecond();
                case 't':
                    return readSign('t') && readFirst();
                default:
                    return false;
            }
        }

        private boolean readKindAndDrive() {
            place++;
            drive = signHere() - '0';
            if (!isDrive(drive)) {
                return false;
            }
            place++;
            return true;
        }

        private boolean readSign(char sign) {
            if (signHere() != sign) {
                return false;
            }
            place++;
            return true;
        }

        private boolean readFirst() {
            first = readNumber();
            return first != NO_NUMBER;
        }

        private boolean readSecond() {
            second = readNumber();
            return second != NO_NUMBER;
        }

        /** Stops ahead of a digit that would be too many: nothing that may follow a number is a digit. */
        private int readNumber() {
            if (!isDigit(signHere())) {
                return NO_NUMBER;
            }
            int number = signHere() - '0';
            place++;
            int mostMore = number == 0 ? 0 : 2;
            for (int i = 0; i < mostMore && isDigit(signHere()); i++) {
                number = number * 10 + (signHere() - '0');
                place++;
            }
            return number;
        }

        private static boolean isDigit(char sign) {
            return sign >= '0' && sign <= '9';
        }

        private char signHere() {
            return place >= 0 && place < length && place < PAD_SIGNS ? signs[place] : NO_SIGN;
        }
    }
}
