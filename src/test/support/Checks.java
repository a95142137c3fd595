/** What the tests share: asking for an answer that is due, and short ways to a scene. */
abstract class Checks {
    static final int BAD = TalkHouse.BAD, NO = TalkHouse.NO, FULL = TalkHouse.FULL, NONE = TalkHouse.NONE;
    static final int WORD = 0, EDIT = 1, GONE = 2, THREAD = 3, PIN = 4, QUOTE = 5, JOIN = 6, LEAVE = 7;
    static final int MIN = Integer.MIN_VALUE, MAX = Integer.MAX_VALUE;

    /** As long as a text can be. */
    static final String LONGEST = "abcdefghijklmnopqrstuvwx";

    private static int wrong = 0;
    private static String part = "";

    /** Ends the test: with exit code 1 if an answer was not as due. */
    static void end(String allIsWell) {
        System.out.println(wrong == 0 ? allIsWell : wrong + " answers are not as due");
        if (wrong != 0) {
            System.exit(1);
        }
    }

    static void part(String name) {
        part = name;
    }

    static TalkHouse start(String name) {
        part(name);
        return new TalkHouse();
    }

    static void due(String call, long got, long want) {
        if (got != want) {
            wrong++;
            System.out.println(part + ": " + call + " answered " + got + ", due is " + want);
        }
    }

    static void type(TalkHouse x, String words) {
        for (int from = 0; from < words.length(); from += 8) {
            int n = Math.min(8, words.length() - from);
            long v = 0;
            for (int k = 0; k < n; k++) {
                v = v << 8 | words.charAt(from + k);
            }
            x.feed(v, n);
        }
    }

    /** Writes and sends; answers the place. */
    static int post(TalkHouse x, int device, int room, int kind, int of, String words) {
        type(x, words);
        int number = x.write(device, room, kind, of);
        return number < 0 ? number : x.send(device, number);
    }

    static int say(TalkHouse x, int device, int room, String words) {
        return post(x, device, room, WORD, NONE, words);
    }

    static void dueText(TalkHouse x, int member, int room, int place, String want) {
        due("text length", x.text(member, room, place, -1), want.length());
        for (int k = 0; k < want.length(); k++) {
            due("text " + k, x.text(member, room, place, k), want.charAt(k));
        }
        due("text behind", x.text(member, room, place, want.length()), NONE);
    }

    static void dueKept(TalkHouse x, int room, int place, String want) {
        due("kept length", x.kept(room, place, -1), want.length());
        for (int k = 0; k < want.length(); k++) {
            due("kept " + k, x.kept(room, place, k), want.charAt(k));
        }
        due("kept behind", x.kept(room, place, want.length()), NONE);
    }

    static void dueShows(TalkHouse x, int device, int room, int place, String want) {
        due("shows length", x.shows(device, room, place, -1), want.length());
        for (int k = 0; k < want.length(); k++) {
            due("shows " + k, x.shows(device, room, place, k), want.charAt(k));
        }
        due("shows behind", x.shows(device, room, place, want.length()), NONE);
    }

    /** Fills a row up to so many entries with joins and leaves of member 5, who is not in yet. */
    static void fillRow(TalkHouse x, int room, int size) {
        int last = -1;
        for (int k = 0; k < size && last < size - 1; k++) {
            last = k % 2 == 0 ? x.join(room, 5, 0) : x.leave(room, 5);
        }
        due("fill", last, size - 1);
    }
}
