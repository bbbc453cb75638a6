import java.util.List;

/** What can be seen of an object. A look takes fewer than 450 calls: an object is good for 512. */
final class Looks {
    private Looks() {
    }

    interface Look {
        String at(SilentDrives x);
    }

    /** Each is taken at an object of its own, since some of them change it; together they show all that there is. */
    static final List<Look> ALL = List.of(Looks::state, Looks::hours, Looks::pad, Looks::prospects, Looks::past, Looks::slots);

    /** All that undo() and restore() bring back, but for the single hours. */
    static String state(SilentDrives x) {
        StringBuilder all = new StringBuilder("count:");
        for (int what = 0; what < 13; what++) {
            all.append(' ').append(x.count(what));
        }
        for (int drive = 0; drive < 4; drive++) {
            all.append("; drive ").append(drive).append(':');
            for (int what = 0; what < 14; what++) {
                all.append(' ').append(x.ofDrive(drive, what));
            }
            all.append(' ').append(x.streak(drive)).append(' ').append(x.share(drive)).append(' ').append(x.mean(drive));
        }
        return all.toString();
    }

    static String hours(SilentDrives x) {
        StringBuilder all = new StringBuilder("hours:");
        for (int drive = 0; drive < 4; drive++) {
            all.append(' ');
            for (int hour = 0; hour < 100; hour++) {
                all.append(x.hour(drive, hour));
            }
        }
        return all.toString();
    }

    /** The pad, by its length, by its fault and by what its orders do. */
    static String pad(SilentDrives x) {
        return "pad: " + x.count(13) + " " + x.fault() + " " + x.carryOut() + " " + state(x) + " " + x.count(13);
    }

    static String prospects(SilentDrives x) {
        StringBuilder all = new StringBuilder("prospects:");
        for (int drive = 0; drive < 4; drive++) {
            all.append(' ').append(x.loudIn(drive, 600)).append(' ').append(x.freeIn(drive, 600));
            all.append(' ').append(x.mostHeld(drive, 600)).append(' ').append(x.firstSafe(drive));
        }
        return all.append(' ').append(x.leastRoom(1)).append(' ').append(x.leastRoom(10)).toString();
    }

    /** The history, from the latest state to the oldest one. */
    static String past(SilentDrives x) {
        StringBuilder all = new StringBuilder("past: ").append(x.count(14));
        for (int left = x.count(14); left >= 0; left--) {
            all.append("; ").append(x.undo()).append(' ').append(x.count(14)).append(':');
            for (int what = 0; what < 13; what++) {
                all.append(' ').append(x.count(what));
            }
            for (int drive = 0; drive < 4; drive++) {
                for (int what : new int[] {0, 1, 2, 3, 6, 7, 9, 12, 13}) {
                    all.append(' ').append(x.ofDrive(drive, what));
                }
            }
        }
        return all.toString();
    }

    static String slots(SilentDrives x) {
        return "slots: " + x.restore(0) + " " + state(x) + " " + x.restore(1) + " " + state(x);
    }

    /** The characters as put() takes them: the last one in the lowest 8 bits. */
    static long number(String characters) {
        long number = 0;
        for (int i = 0; i < characters.length(); i++) {
            number = number << 8 | characters.charAt(i);
        }
        return number;
    }

    /** Puts a text on the pad, and returns the answer of the last put(). */
    static int put(SilentDrives x, String text) {
        int answer = 0;
        for (int i = 0; i < text.length(); i += 8) {
            answer = x.put(number(text.substring(i, Math.min(i + 8, text.length()))));
        }
        return answer;
    }
}
