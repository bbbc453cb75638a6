/** All that can be asked about an object, and what the tests use to write on its pad. */
final class Looks {
    private Looks() {
    }

    /** The answers of every call that tells what there is, in one text. */
    static String at(SilentDrives x) {
        StringBuilder all = new StringBuilder();
        for (int drive = 0; drive < 4; drive++) {
            all.append("drive ").append(drive).append(':');
            for (int what = 0; what < 14; what++) {
                all.append(' ').append(x.ofDrive(drive, what));
            }
            all.append(" hours ");
            for (int hour = 0; hour < 100; hour++) {
                all.append(x.hour(drive, hour));
            }
            all.append(' ').append(x.streak(drive)).append(' ').append(x.share(drive));
            all.append(' ').append(x.mean(drive)).append('\n');
        }
        all.append("count:");
        for (int what = 0; what < 15; what++) {
            all.append(' ').append(x.count(what));
        }
        return all.append(" fault ").append(x.fault()).toString();
    }

    /** As at(), without the pad and the history: what undo() and restore() bring back. */
    static String atState(SilentDrives x) {
        String all = at(x);
        String counts = all.substring(0, all.indexOf(" fault "));
        int cut = counts.lastIndexOf(' ', counts.lastIndexOf(' ') - 1);
        return counts.substring(0, cut);
    }

    static long number(String characters) {
        long number = 0;
        for (int i = 0; i < characters.length(); i++) {
            number = number << 8 | characters.charAt(i);
        }
        return number;
    }

    /** Puts a text on the pad, and returns the answer of the last put(). */
    static int put(SilentDrives x, String text) {
        int answer = 0;
        for (int i = 0; i < text.length(); i += 8) {
            answer = x.put(number(text.substring(i, Math.min(i + 8, text.length()))));
        }
        return answer;
    }
}
