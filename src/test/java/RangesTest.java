import java.util.function.IntToLongFunction;
import java.util.function.Supplier;

/**
 * Each argument of each call: what is due for every value from the last allowed one on the one side to
 * the last allowed one on the other, and the refusal just beyond both. All else is right in the call, and
 * each value has an object of its own.
 */
public final class RangesTest extends Checks {
    private static final int[] KINDS = {JOIN, WORD, EDIT, THREAD, QUOTE, PIN, JOIN, JOIN, JOIN, JOIN, JOIN};
    private static final int SIZE = KINDS.length;

    private interface Call {
        long at(TalkHouse x, int v);
    }

    public static void main(String[] args) {
        own();
        join();
        leave();
        tick();
        feedLength();
        feedBytes();
        write();
        writeOf();
        writeOfWord();
        send();
        out();
        entry();
        isOf();
        maySee();
        text();
        kept();
        take();
        gap();
        ask();
        shows();
        quoted();
        behind();
        sum();
        mark();
        unread();
        find();
        thread();
        holdRoom();
        holdTimes();
        age();
        count();
        end("all ranges are kept");
    }

    // ---- scenes

    /**
     * Each room has member 0's join, "abc" edited to "Abcd", a thread and a quote of it, a pin, and then the
     * joins of members 1 .. 5 with the past. Each device has its letter 0 unsent. The tape has "C", TIME is 500.
     */
    private static TalkHouse house() {
        TalkHouse x = new TalkHouse();
        for (int d = 0; d < 8; d++) {
            x.write(d, 0, WORD, NONE);
        }
        for (int room = 0; room < 3; room++) {
            int device = room < 2 ? 0 : 6;
            int of = 100 * room + 1;
            x.join(room, 0, 0);
            say(x, device, room, "abc");
            post(x, device, room, EDIT, of, "Abcd");
            post(x, device, room, THREAD, of, "t");
            post(x, device, room, QUOTE, of, "q");
            post(x, device, room, PIN, of, "");
            for (int m = 1; m < 6; m++) {
                x.join(room, m, 1);
            }
        }
        x.tick(500);
        type(x, "C");
        return x;
    }

    /** The same, and each device has all. */
    private static TalkHouse houseWithCopies() {
        TalkHouse x = house();
        for (int d = 0; d < 8; d++) {
            for (int room = 0; room < 3; room++) {
                x.ask(d, room, 60);
            }
        }
        return x;
    }

    private static TalkHouse fullRow() {
        TalkHouse x = new TalkHouse();
        x.join(0, 0, 0);
        fillRow(x, 0, 60);
        return x;
    }

    private static boolean isSaidPlace(int place) {
        return place == 1 || place == 3 || place == 4;
    }

    // ---- asking

    private static void range(String what, Supplier<TalkHouse> scene, int low, int high, Call call,
            IntToLongFunction want) {
        for (int v = low; v <= high; v++) {
            due(what + " " + v, call.at(scene.get(), v), want.applyAsLong(v));
        }
        int[] beyond = {low - 1, high + 1, MIN, MAX};
        for (int v : beyond) {
            due(what + " " + v, call.at(scene.get(), v), BAD);
        }
    }

    /** An argument without a greatest value: so many have an answer, and all others up to the greatest int NONE. */
    private static void from(String what, Supplier<TalkHouse> scene, int low, Call call, long... want) {
        for (int k = 0; k < want.length; k++) {
            due(what + " " + (low + k), call.at(scene.get(), low + k), want[k]);
        }
        due(what + " behind the last", call.at(scene.get(), low + want.length), NONE);
        due(what + " " + MAX, call.at(scene.get(), MAX), NONE);
        due(what + " " + (low - 1), call.at(scene.get(), low - 1), BAD);
        due(what + " " + MIN, call.at(scene.get(), MIN), BAD);
    }

    // ---- 2 to 5: members, devices, time

    private static void own() {
        part("2 own");
        range("device", RangesTest::house, 0, 7, (x, v) -> x.own(v, 0), v -> v % 6);
        range("member", RangesTest::house, 0, 5, (x, v) -> x.own(3, v), v -> 3);
    }

    private static void join() {
        part("3 join");
        range("room", TalkHouse::new, 0, 2, (x, v) -> x.join(v, 0, 0), v -> 0);
        range("member", TalkHouse::new, 0, 5, (x, v) -> x.join(0, v, 0), v -> 0);
        range("past", TalkHouse::new, 0, 1, (x, v) -> x.join(0, 0, v), v -> 0);
    }

    private static void leave() {
        part("4 leave");
        range("room", RangesTest::house, 0, 2, (x, v) -> x.leave(v, 0), v -> SIZE);
        range("member", RangesTest::house, 0, 5, (x, v) -> x.leave(0, v), v -> SIZE);
    }

    private static void tick() {
        part("5 tick");
        range("n", TalkHouse::new, 0, 1000, (x, v) -> x.tick(v), v -> v);
        range("n", RangesTest::house, 0, 1000, (x, v) -> x.tick(v), v -> 500 + v);
    }

    // ---- 6 to 10: letters

    private static void feedLength() {
        part("6 feed");
        range("n", TalkHouse::new, 1, 8, (x, v) -> x.feed(0x4142434445464748L, v), v -> v);
    }

    private static void feedBytes() {
        part("6 feed, each byte at each of eight");
        for (int at = 0; at < 8; at++) {
            for (int b = 0; b < 256; b++) {
                long v = 0x4141414141414141L & ~(255L << 8 * at) | (long) b << 8 * at;
                due("byte " + b, new TalkHouse().feed(v, 8), b >= 32 && b <= 126 ? 8 : BAD);
                // Of n bytes those above them count for nothing.
                if (at > 0) {
                    due("above: byte " + b, new TalkHouse().feed(v, at), at);
                }
            }
        }
    }

    private static void write() {
        part("8 write");
        range("device", TalkHouse::new, 0, 7, (x, v) -> x.write(v, 0, WORD, NONE), v -> 0);
        range("room", TalkHouse::new, 0, 2, (x, v) -> x.write(0, v, WORD, NONE), v -> 0);
        range("kind", TalkHouse::new, 0, 5, (x, v) -> x.write(0, 0, v, v == WORD ? NONE : 1), v -> 0);
        due("kind 6 with NONE", new TalkHouse().write(0, 0, 6, NONE), BAD);
        due("kind -1 with NONE", new TalkHouse().write(0, 0, -1, NONE), BAD);
    }

    private static void writeOf() {
        part("8 write, of");
        int[] wild = {MIN, MIN + 1, BAD, NO, FULL, NONE, NONE - 1, NONE + 1, -1000, 1000, MAX - 1, MAX};
        for (int kind = EDIT; kind <= QUOTE; kind++) {
            for (int room = 0; room < 3; room++) {
                for (int of = -101; of <= 401; of++) {
                    boolean isOne = of >= 0 && of < 300 && of % 100 < 60;
                    boolean isRight = isOne && (kind == QUOTE || of / 100 == room);
                    due("of " + of, new TalkHouse().write(0, room, kind, of), isRight ? 0 : BAD);
                }
                for (int of : wild) {
                    due("of " + of, new TalkHouse().write(0, room, kind, of), BAD);
                }
            }
        }
    }

    private static void writeOfWord() {
        part("8 write, of a WORD NONE");
        for (int room = 0; room < 3; room++) {
            for (int of = -101; of <= 401; of++) {
                due("of " + of, new TalkHouse().write(0, room, WORD, of), BAD);
            }
            due("NONE", new TalkHouse().write(0, room, WORD, NONE), 0);
            int[] wild = {MIN, BAD, NO, FULL, NONE - 1, NONE + 1, MAX};
            for (int of : wild) {
                due("of " + of, new TalkHouse().write(0, room, WORD, of), BAD);
            }
        }
    }

    private static void send() {
        part("9 send");
        range("device", RangesTest::house, 0, 7, (x, v) -> x.send(v, 0), v -> SIZE);
        range("number", RangesTest::house, 0, 10, (x, v) -> x.send(0, v), v -> v == 0 ? SIZE : (v - 1) % 5 + 1);
        range("number", RangesTest::house, 0, 0, (x, v) -> x.send(1, v), v -> SIZE);
        due("no letter", new TalkHouse().send(0, 0), BAD);
    }

    private static void out() {
        part("10 out");
        long[] told = {0, EDIT, 1, 4, 2};
        range("device", RangesTest::house, 0, 7, (x, v) -> x.out(v, 0, 1), v -> WORD);
        range("number", RangesTest::house, 0, 10, (x, v) -> x.out(0, v, 4), v -> v == 0 ? NONE : (v - 1) % 5 + 1);
        range("what", RangesTest::house, 0, 4, (x, v) -> x.out(0, 2, v), v -> told[v]);
        due("no letter", new TalkHouse().out(0, 0, 0), BAD);
    }

    // ---- 11 to 15: the rows

    private static void entry() {
        part("11 entry");
        long[] ofWord = {WORD, 0, 0, NONE, 0, 0, 1, 0, 3};
        long[] ofEdit = {EDIT, 0, 0, 1, 0, 0, 0, 0, 4};
        range("room", RangesTest::house, 0, 2, (x, v) -> x.entry(v, 2, 3), v -> 100 * v + 1);
        range("place", RangesTest::house, 0, SIZE - 1, (x, v) -> x.entry(0, v, 0), v -> KINDS[v]);
        range("place", RangesTest::fullRow, 0, 59, (x, v) -> x.entry(0, v, 1), v -> 0);
        range("what", RangesTest::house, 0, 8, (x, v) -> x.entry(0, 1, v), v -> ofWord[v]);
        range("what", RangesTest::house, 0, 8, (x, v) -> x.entry(0, 2, v), v -> ofEdit[v]);
        due("an empty row", new TalkHouse().entry(0, 0, 0), BAD);
    }

    private static void isOf() {
        part("12 isOf");
        range("room", RangesTest::house, 0, 2, (x, v) -> x.isOf(v, 1, 0), v -> 1);
        range("place", RangesTest::house, 0, SIZE - 1, (x, v) -> x.isOf(0, v, 0), v -> isSaidPlace(v) ? 1 : 0);
        range("place", RangesTest::fullRow, 0, 59, (x, v) -> x.isOf(0, v, 0), v -> 0);
        range("kind", RangesTest::house, 0, 8, (x, v) -> x.isOf(0, 2, v), v -> v == EDIT || v == 8 ? 1 : 0);
        due("an empty row", new TalkHouse().isOf(0, 0, 0), BAD);
    }

    private static void maySee() {
        part("13 maySee");
        range("member", RangesTest::house, 0, 5, (x, v) -> x.maySee(v, 0, 0), v -> 1);
        range("room", RangesTest::house, 0, 2, (x, v) -> x.maySee(1, v, 0), v -> 1);
        range("place", RangesTest::house, 0, SIZE - 1, (x, v) -> x.maySee(5, 0, v), v -> 1);
        range("place", RangesTest::fullRow, 0, 59, (x, v) -> x.maySee(0, 0, v), v -> 1);
        due("an empty row", new TalkHouse().maySee(0, 0, 0), BAD);
    }

    private static void text() {
        part("14 text");
        long[] first = {NO, 'A', NO, 't', 'q', NO, NO, NO, NO, NO, NO};
        range("member", RangesTest::house, 0, 5, (x, v) -> x.text(v, 0, 1, 0), v -> 'A');
        range("room", RangesTest::house, 0, 2, (x, v) -> x.text(0, v, 1, 0), v -> 'A');
        range("place", RangesTest::house, 0, SIZE - 1, (x, v) -> x.text(0, 0, v, 0), v -> first[v]);
        range("place", RangesTest::fullRow, 0, 59, (x, v) -> x.text(0, 0, v, 0), v -> NO);
        from("i", RangesTest::house, -1, (x, v) -> x.text(0, 0, 1, v), 4, 'A', 'b', 'c', 'd');
        due("an empty row", new TalkHouse().text(0, 0, 0, 0), BAD);
    }

    private static void kept() {
        part("15 kept");
        long[] first = {NO, 'A', NO, 't', 'q', NO, NO, NO, NO, NO, NO};
        range("room", RangesTest::house, 0, 2, (x, v) -> x.kept(v, 1, 0), v -> 'A');
        range("place", RangesTest::house, 0, SIZE - 1, (x, v) -> x.kept(0, v, 0), v -> first[v]);
        range("place", RangesTest::fullRow, 0, 59, (x, v) -> x.kept(0, v, 0), v -> NO);
        from("i", RangesTest::house, -1, (x, v) -> x.kept(0, 1, v), 4, 'A', 'b', 'c', 'd');
        due("an empty row", new TalkHouse().kept(0, 0, 0), BAD);
    }

    // ---- 16 to 22: copies

    private static void take() {
        part("16 take");
        range("device", RangesTest::house, 0, 7, (x, v) -> x.take(v, 0, 0), v -> 1);
        range("room", RangesTest::house, 0, 2, (x, v) -> x.take(0, v, 0), v -> 1);
        range("place", RangesTest::house, 0, SIZE - 1, (x, v) -> x.take(0, 0, v), v -> 1);
        range("place", RangesTest::houseWithCopies, 0, SIZE - 1, (x, v) -> x.take(0, 0, v), v -> 0);
        range("place", RangesTest::fullRow, 0, 59, (x, v) -> x.take(0, 0, v), v -> 1);
        due("an empty row", new TalkHouse().take(0, 0, 0), BAD);
    }

    private static void gap() {
        part("17 gap");
        range("device", RangesTest::house, 0, 7, (x, v) -> x.gap(v, 0), v -> 0);
        range("room", RangesTest::house, 0, 2, (x, v) -> x.gap(0, v), v -> 0);
        range("device", RangesTest::houseWithCopies, 0, 7, (x, v) -> x.gap(v, 0), v -> NONE);
        range("room", TalkHouse::new, 0, 2, (x, v) -> x.gap(0, v), v -> NONE);
    }

    private static void ask() {
        part("18 ask");
        range("device", RangesTest::house, 0, 7, (x, v) -> x.ask(v, 0, 60), v -> SIZE);
        range("room", RangesTest::house, 0, 2, (x, v) -> x.ask(0, v, 60), v -> SIZE);
        range("n", RangesTest::house, 1, 60, (x, v) -> x.ask(0, 0, v), v -> Math.min(v, SIZE));
        range("n", RangesTest::fullRow, 1, 60, (x, v) -> x.ask(0, 0, v), v -> v);
        range("n", TalkHouse::new, 1, 60, (x, v) -> x.ask(0, 0, v), v -> 0);
    }

    private static void shows() {
        part("19 shows");
        long[] first = {NO, 'A', NO, 't', 'q', NO, NO, NO, NO, NO, NO};
        range("device", RangesTest::houseWithCopies, 0, 7, (x, v) -> x.shows(v, 0, 1, 0), v -> 'A');
        range("room", RangesTest::houseWithCopies, 0, 2, (x, v) -> x.shows(0, v, 1, 0), v -> 'A');
        range("place", RangesTest::houseWithCopies, 0, SIZE - 1, (x, v) -> x.shows(0, 0, v, 0), v -> first[v]);
        range("place", RangesTest::fullRow, 0, 59, (x, v) -> x.shows(0, 0, v, 0), v -> NO);
        from("i", RangesTest::houseWithCopies, -1, (x, v) -> x.shows(0, 0, 1, v), 4, 'A', 'b', 'c', 'd');
        due("an empty row", new TalkHouse().shows(0, 0, 0, 0), BAD);
    }

    private static void quoted() {
        part("20 quoted");
        range("device", RangesTest::houseWithCopies, 0, 7, (x, v) -> x.quoted(v, 0, 4), v -> 1);
        range("room", RangesTest::houseWithCopies, 0, 2, (x, v) -> x.quoted(0, v, 4), v -> 100 * v + 1);
        range("place", RangesTest::houseWithCopies, 0, SIZE - 1, (x, v) -> x.quoted(0, 0, v), v -> v == 4 ? 1 : NO);
        range("place", RangesTest::fullRow, 0, 59, (x, v) -> x.quoted(0, 0, v), v -> NO);
        due("an empty row", new TalkHouse().quoted(0, 0, 0), BAD);
    }

    private static void behind() {
        part("21 behind");
        range("room", RangesTest::houseWithCopies, 0, 2, (x, v) -> x.behind(v, 1), v -> 0);
        range("place", RangesTest::house, 0, SIZE - 1, (x, v) -> x.behind(0, v), v -> isSaidPlace(v) ? 0 : NO);
        range("place", RangesTest::fullRow, 0, 59, (x, v) -> x.behind(0, v), v -> NO);
        due("an empty row", new TalkHouse().behind(0, 0), BAD);
    }

    private static void sum() {
        part("22 sum");
        int[] noDevice = {-1, 8, MIN, MAX}, noRoom = {-1, 3, MIN, MAX};
        for (int v : noDevice) {
            due("device " + v, houseWithCopies().sum(v, 0), 0);
        }
        for (int v : noRoom) {
            due("room " + v, houseWithCopies().sum(0, v), 0);
        }
        for (int d = 0; d < 8; d++) {
            for (int room = 0; room < 3; room++) {
                TalkHouse x = house();
                due("nothing", x.sum(d, room), 7);
                x.take(d, room, 10);
                due("the last one", x.sum(d, room), (7L * 31 + 10) * 31 + JOIN);
            }
        }
    }

    // ---- 23 to 26: marks, search

    private static void mark() {
        part("23 mark");
        range("member", RangesTest::house, 0, 5, (x, v) -> x.mark(v, 0, 3), v -> 3);
        range("room", RangesTest::house, 0, 2, (x, v) -> x.mark(0, v, 3), v -> 3);
        range("place", RangesTest::house, -1, SIZE - 1, (x, v) -> x.mark(0, 0, v), v -> v);
        range("place", RangesTest::fullRow, -1, 59, (x, v) -> x.mark(0, 0, v), v -> v);
        range("place", TalkHouse::new, -1, -1, (x, v) -> x.mark(0, 0, v), v -> -1);
    }

    private static void unread() {
        part("24 unread");
        range("member", RangesTest::house, 0, 5, (x, v) -> x.unread(v, 0), v -> v == 0 ? 0 : 3);
        range("room", RangesTest::house, 0, 2, (x, v) -> x.unread(1, v), v -> 3);
        range("member", TalkHouse::new, 0, 5, (x, v) -> x.unread(v, 0), v -> 0);
        range("room", TalkHouse::new, 0, 2, (x, v) -> x.unread(0, v), v -> 0);
    }

    private static void find() {
        part("25 find");
        range("member", RangesTest::house, 0, 5, (x, v) -> x.find(v, 0, 0), v -> 1);
        range("room", RangesTest::house, 0, 2, (x, v) -> x.find(0, v, 0), v -> 1);
        from("i", RangesTest::house, 0, (x, v) -> x.find(0, 0, v), 1);
    }

    private static void thread() {
        part("26 thread");
        long[] under = {NO, 3, NO, NONE, NONE, NO, NO, NO, NO, NO, NO};
        range("member", RangesTest::house, 0, 5, (x, v) -> x.thread(v, 0, 1, 0), v -> 3);
        range("room", RangesTest::house, 0, 2, (x, v) -> x.thread(0, v, 1, 0), v -> 3);
        range("place", RangesTest::house, 0, SIZE - 1, (x, v) -> x.thread(0, 0, v, 0), v -> under[v]);
        range("place", RangesTest::fullRow, 0, 59, (x, v) -> x.thread(0, 0, v, 0), v -> NO);
        from("i", RangesTest::house, 0, (x, v) -> x.thread(0, 0, 1, v), 3);
        due("an empty row", new TalkHouse().thread(0, 0, 0, 0), BAD);
    }

    // ---- 27 to 29: law

    private static void holdRoom() {
        part("27 hold");
        range("room", RangesTest::house, 0, 2, (x, v) -> x.hold(v, 0, 0), v -> 3);
        range("room", TalkHouse::new, 0, 2, (x, v) -> x.hold(v, 0, 0), v -> 0);
        range("room, none", RangesTest::house, 0, 2, (x, v) -> x.hold(v, -1, -1), v -> 0);
    }

    private static void holdTimes() {
        part("27 hold, from a TIME to another one (0 .. 1000000, from not above to; -1 and -1: none)");
        int[] times = {MIN, BAD, NONE, -1000000, -2, -1, 0, 1, 2, 500, 999999, 1000000, 1000001, MAX - 1, MAX};
        for (int from : times) {
            for (int to : times) {
                boolean isNone = from == -1 && to == -1;
                boolean isRight = from >= 0 && to <= 1000000 && from <= to;
                long want = isNone ? 0 : !isRight ? BAD : from == 0 ? 3 : 0;
                due("from " + from + " to " + to, house().hold(0, from, to), want);
            }
        }
    }

    private static void age() {
        part("28 age");
        range("room", RangesTest::house, 0, 2, (x, v) -> x.age(v, 500), v -> 3);
        range("a", RangesTest::house, 0, 1000, (x, v) -> x.age(0, v), v -> v <= 500 ? 3 : 0);
        range("room, none", RangesTest::house, 0, 2, (x, v) -> x.age(v, NONE), v -> 0);
        int[] notNone = {BAD, NO, FULL, NONE - 1, NONE + 1};
        for (int a : notNone) {
            due("a " + a, house().age(0, a), BAD);
        }
    }

    private static void count() {
        part("29 count");
        long[] told = {33, 9, 0, 0, 1, 500, 23, 8, 0};
        range("what", RangesTest::house, 0, 8, (x, v) -> x.count(v), v -> told[v]);
        range("what", TalkHouse::new, 0, 8, (x, v) -> x.count(v), v -> 0);
    }
}
