/** One part for each promise of the document: ordinary inputs, the edges it names, wrong inputs. */
public final class PromisesTest extends Checks {
    private static final int[] WILD = {
        Integer.MIN_VALUE, BAD, NONE, -101, -2, 1001, 1000001, Integer.MAX_VALUE};

    public static void main(String[] args) {
        newObject();
        own();
        join();
        leave();
        tick();
        feed();
        blank();
        write();
        writeOf();
        send();
        sendOrderOfConditions();
        sendWhenFull();
        out();
        entry();
        isOf();
        maySee();
        text();
        kept();
        take();
        gap();
        ask();
        shows();
        quoted();
        behind();
        sum();
        mark();
        unread();
        find();
        thread();
        hold();
        age();
        endsStay();
        count();
        fullRow();
        wrongInputs();
        wrongInputsChangeNothing();
        end("all promises are kept");
    }

    // ---- 1 to 5: members, devices, time

    private static void newObject() {
        TalkHouse x = start("1 new object");
        for (int what = 0; what <= 8; what++) {
            due("count " + what, x.count(what), 0);
        }
        for (int room = 0; room < 3; room++) {
            due("entry", x.entry(room, 0, 0), BAD);
            for (int d = 0; d < 8; d++) {
                due("gap", x.gap(d, room), NONE);
                due("sum", x.sum(d, room), 7);
            }
            for (int m = 0; m < 6; m++) {
                due("mark", x.mark(m, room, -1), -1);
                due("unread", x.unread(m, room), 0);
                due("leave", x.leave(room, m), NO);
            }
        }
        TalkHouse y = new TalkHouse();
        x.join(0, 0, 0);
        due("another object has its own rooms", y.count(0), 0);
    }

    private static void own() {
        TalkHouse x = start("2 own");
        for (int d = 0; d < 8; d++) {
            due("own at first", x.own(d, d % 6), d % 6);
        }
        x.join(0, 0, 0);
        due("say", say(x, 0, 0, "a"), 1);
        due("ask", x.ask(0, 0, 60), 2);
        due("ask", x.ask(6, 0, 60), 2);
        due("own", x.own(0, 3), 0);
        due("its out is empty", x.out(0, 0, 0), BAD);
        due("letters", x.count(6), 0);
        due("it has nothing", x.count(8), 2);
        due("other devices keep", x.sum(6, 0) == 7L ? 1 : 0, 0);
        due("the entry stays", x.entry(0, 1, 8), 1);
        due("own again", x.own(0, 3), 3);
        due("member 3 is not in", say(x, 0, 0, "b"), -11);
        due("own the same", x.own(6, 0), 0);
        due("it has nothing then either", x.count(8), 0);
        due("back", x.own(0, 0), 3);
        due("letters begin at 0 again", x.write(0, 0, WORD, NONE), 0);
        due("not settled", x.out(0, 0, 4), NONE);
        due("device 8", x.own(8, 0), BAD);
        due("device -1", x.own(-1, 0), BAD);
        due("member 6", x.own(0, 6), BAD);
        due("member -1", x.own(0, -1), BAD);
        due("refused changes nothing", x.count(6), 1);
    }

    private static void join() {
        TalkHouse x = start("3 join");
        due("join", x.join(2, 5, 0), 0);
        due("join", x.join(2, 4, 1), 1);
        due("in already", x.join(2, 5, 1), NO);
        due("another room", x.join(1, 4, 1), 0);
        due("kind", x.entry(2, 1, 0), 6);
        due("member", x.entry(2, 1, 2), 4);
        due("of", x.entry(2, 1, 3), NONE);
        due("room 3", x.join(3, 0, 0), BAD);
        due("room -1", x.join(-1, 0, 0), BAD);
        due("member 6", x.join(0, 6, 0), BAD);
        due("member -1", x.join(0, -1, 0), BAD);
        due("past 2", x.join(0, 0, 2), BAD);
        due("past -1", x.join(0, 0, -1), BAD);
        due("entries", x.count(0), 3);
        fillRow(x, 0, 60);
        due("full", x.join(0, 0, 0), FULL);
        due("full, past", x.join(0, 0, 1), FULL);
        due("sees nothing of it", x.maySee(0, 0, 0), 0);
        fillRow(x, 1, 59);
        due("the last place", x.join(1, 0, 0), 59);
        due("NO ahead of FULL", x.join(1, 0, 0), NO);
    }

    private static void leave() {
        TalkHouse x = start("4 leave");
        due("not in", x.leave(0, 1), NO);
        due("join", x.join(0, 1, 0), 0);
        x.tick(3);
        due("leave", x.leave(0, 1), 1);
        due("kind", x.entry(0, 1, 0), 7);
        due("time", x.entry(0, 1, 1), 3);
        due("member", x.entry(0, 1, 2), 1);
        due("left already", x.leave(0, 1), NO);
        due("join again", x.join(0, 1, 0), 2);
        due("room 3", x.leave(3, 1), BAD);
        due("room -1", x.leave(-1, 1), BAD);
        due("member 6", x.leave(0, 6), BAD);
        due("member -1", x.leave(0, -1), BAD);
        fillRow(x, 0, 60);
        due("full", x.leave(0, 1), FULL);
        due("NO ahead of FULL", x.leave(0, 0), NO);
        due("still in", x.join(0, 1, 0), NO);
    }

    private static void tick() {
        TalkHouse x = start("5 tick");
        due("tick 0", x.tick(0), 0);
        due("tick 1000", x.tick(1000), 1000);
        due("tick 1001", x.tick(1001), BAD);
        due("tick -1", x.tick(-1), BAD);
        due("time", x.count(5), 1000);
        // Behind the 512th call the document leaves the answers free; the limit holds there all the same.
        TalkHouse y = start("5 tick, the last time");
        for (int k = 1; k < 1000; k++) {
            y.tick(1000);
        }
        due("tick 999", y.tick(999), 999999);
        due("above", y.tick(2), BAD);
        due("tick 1", y.tick(1), 1000000);
        due("tick 0", y.tick(0), 1000000);
        due("above", y.tick(1), BAD);
        due("above", y.tick(1000), BAD);
    }

    // ---- 6 to 10: letters

    private static void feed() {
        TalkHouse x = start("6 feed");
        x.join(0, 0, 0);
        due("three of v", x.feed(0x7F00006162637AL, 3), 3);
        due("eight", x.feed(0x3132333435363738L, 8), 11);
        due("write", x.write(0, 0, WORD, NONE), 0);
        due("send", x.send(0, 0), 1);
        dueText(x, 0, 0, 1, "bcz12345678");
        due("n 0", x.feed(65, 0), BAD);
        due("n 9", x.feed(0x4141414141414141L, 9), BAD);
        due("n -1", x.feed(65, -1), BAD);
        due("31", x.feed(31, 1), BAD);
        due("32", x.feed(32, 1), 1);
        due("126", x.feed(126, 1), 2);
        due("127", x.feed(127, 1), BAD);
        due("255", x.feed(-1L, 8), BAD);
        due("a bad byte first", x.feed(0x1F41L, 2), BAD);
        due("a bad byte last", x.feed(0x417FL, 2), BAD);
        due("a bad byte in the middle", x.feed(0x410041L, 3), BAD);
        due("nothing came", x.count(4), 2);
        x.feed(0x4141414141414141L, 8);
        x.feed(0x4141414141414141L, 8);
        due("to 23", x.feed(0x4141414141L, 5), 23);
        due("two more", x.feed(0x4141L, 2), FULL);
        due("nothing came", x.count(4), 23);
        due("BAD ahead of FULL", x.feed(0x4100L, 2), BAD);
        due("to 24", x.feed(0x42L, 1), 24);
        due("one more", x.feed(0x42L, 1), FULL);
        due("write", x.write(0, 0, WORD, NONE), 1);
        due("24 long", x.out(0, 1, 3), 24);
    }

    private static void blank() {
        TalkHouse x = start("7 blank");
        due("empty", x.blank(), 0);
        x.feed(0x414243L, 3);
        due("three", x.blank(), 3);
        due("empty then", x.blank(), 0);
        due("bytes", x.count(4), 0);
        due("feed", x.feed(0x44L, 1), 1);
    }

    private static void write() {
        TalkHouse x = start("8 write");
        type(x, "abc");
        due("no need to be in", x.write(3, 1, WORD, NONE), 0);
        due("the tape is taken", x.count(4), 0);
        due("empty text", x.write(3, 1, WORD, NONE), 1);
        due("length 0", x.out(3, 1, 3), 0);
        type(x, "abc");
        due("gone", x.write(3, 1, GONE, 100), 2);
        due("the tape is taken", x.count(4), 0);
        due("no text", x.out(3, 2, 3), 0);
        type(x, "abc");
        due("pin", x.write(3, 1, PIN, 159), 3);
        due("the tape is taken", x.count(4), 0);
        due("no text", x.out(3, 3, 3), 0);
        type(x, "abc");
        due("refused", x.write(3, 3, WORD, NONE), BAD);
        due("the tape is taken all the same", x.count(4), 0);
        for (int number = 4; number < 12; number++) {
            due("write", x.write(3, 1, WORD, NONE), number);
        }
        type(x, "abc");
        due("full", x.write(3, 1, WORD, NONE), FULL);
        due("the tape is taken all the same", x.count(4), 0);
        due("BAD ahead of FULL", x.write(3, 1, 6, NONE), BAD);
        due("another device", x.write(4, 1, WORD, NONE), 0);
        due("device 8", x.write(8, 0, WORD, NONE), BAD);
        due("device -1", x.write(-1, 0, WORD, NONE), BAD);
        due("room -1", x.write(0, -1, WORD, NONE), BAD);
        due("kind -1", x.write(0, 0, -1, NONE), BAD);
        due("kind 6", x.write(0, 0, 6, 1), BAD);
        due("letters", x.count(6), 13);
    }

    private static void writeOf() {
        TalkHouse x = start("8 write, of");
        due("word with one", x.write(0, 0, WORD, 0), BAD);
        int[] others = {EDIT, GONE, THREAD, PIN, QUOTE};
        int number = 0;
        for (int kind : others) {
            due("NONE", x.write(0, 1, kind, NONE), BAD);
            due("-1", x.write(0, 1, kind, -1), BAD);
            due("place 60", x.write(0, 1, kind, 160), BAD);
            due("place 99", x.write(0, 1, kind, 199), BAD);
            due("room 3", x.write(0, 1, kind, 300), BAD);
            due("place 0", x.write(0, 1, kind, 100), number++);
            due("place 59", x.write(0, 1, kind, 159), number++);
            due("room below", x.write(0, 1, kind, 59), kind == QUOTE ? number++ : BAD);
            if (number < 12) {
                due("room above", x.write(0, 1, kind, 200), kind == QUOTE ? number++ : BAD);
            }
        }
        due("full", x.write(0, 1, QUOTE, 200), FULL);
        due("of", x.out(0, 11, 2), 200);
        due("of", x.out(0, 10, 2), 59);
        due("of", x.out(0, 9, 2), 159);
    }

    private static void send() {
        TalkHouse x = start("9 send");
        x.join(0, 0, 0);
        type(x, "one");
        x.write(0, 0, WORD, NONE);
        type(x, "two");
        x.write(0, 0, WORD, NONE);
        x.tick(7);
        due("the later one first", x.send(0, 1), 1);
        due("the first one", x.send(0, 0), 2);
        due("again", x.send(0, 1), 1);
        dueText(x, 0, 0, 1, "two");
        dueText(x, 0, 0, 2, "one");
        due("the time at which it came", x.entry(0, 1, 1), 7);
        x.leave(0, 0);
        due("again, after it left", x.send(0, 1), 1);
        due("entries", x.count(0), 4);
        due("number 2", x.send(0, 2), BAD);
        due("number -1", x.send(0, -1), BAD);
        due("device 8", x.send(8, 0), BAD);
        due("device -1", x.send(-1, 0), BAD);
        due("no letters", x.send(1, 0), BAD);
        type(x, "late");
        x.write(0, 0, WORD, NONE);
        due("not in", x.send(0, 2), -11);
        due("not settled", x.out(0, 2, 4), NONE);
        x.join(0, 0, 0);
        due("in again", x.send(0, 2), 5);
        due("settled", x.out(0, 2, 4), 5);
    }

    private static void sendOrderOfConditions() {
        TalkHouse x = start("9 send, 1 .. 4");
        x.join(0, 0, 0);
        due("0", say(x, 0, 0, "mine"), 1);
        x.join(0, 1, 0);
        due("not seen", post(x, 1, 0, PIN, 1, ""), -12);
        due("not seen, edit", post(x, 1, 0, EDIT, 1, "e"), -12);
        due("about a join", post(x, 0, 0, PIN, 0, ""), -12);
        due("about none", post(x, 0, 0, PIN, 40, ""), -12);
        due("under a pin", post(x, 0, 0, PIN, 1, ""), 3);
        due("under a pin", post(x, 0, 0, THREAD, 3, "t"), -12);
        due("quote from a room where it never was", post(x, 0, 0, QUOTE, 100, "q"), -12);
        due("1", say(x, 1, 0, "other's"), 4);
        due("edit of another's", post(x, 0, 0, EDIT, 4, "e"), -13);
        due("gone of another's", post(x, 0, 0, GONE, 4, ""), -13);
        due("quote of another's", post(x, 0, 0, QUOTE, 4, "q"), 5);
        due("gone", post(x, 6, 0, GONE, 1, ""), 6);
        due("gone again", post(x, 6, 0, GONE, 1, ""), -13);
        due("edit of a gone one", post(x, 6, 0, EDIT, 1, "e"), -13);
        due("pin a gone one", post(x, 6, 0, PIN, 1, ""), 7);
        due("thread under a gone one", post(x, 6, 0, THREAD, 1, "t"), 8);
        due("quote a gone one", post(x, 6, 0, QUOTE, 1, "t"), 9);
        x.tick(1);
        x.age(0, 1);
        due("under an ended one", post(x, 6, 0, THREAD, 1, "t"), -12);
        due("quote an ended one", post(x, 6, 0, QUOTE, 4, "t"), -12);
        due("edit an ended one of another", post(x, 6, 0, EDIT, 4, "t"), -12);
        x.leave(0, 0);
        due("not in ahead of the rest", post(x, 6, 0, EDIT, 4, "t"), -11);
        due("letters stay", x.count(6), 22);
        due("of these not settled", x.count(7), 14);
    }

    private static void sendWhenFull() {
        TalkHouse x = start("9 send, no room");
        x.join(0, 0, 0);
        x.join(1, 0, 0);
        due("say", say(x, 0, 0, "w"), 1);
        x.join(0, 1, 1);
        fillRow(x, 0, 59);
        x.write(0, 0, EDIT, 1);
        due("the last place", x.send(0, x.count(6) - 1), 59);
        due("no room", say(x, 0, 0, "w"), -14);
        due("edit", post(x, 0, 0, EDIT, 1, "w"), -14);
        due("12 ahead of 14", post(x, 0, 0, EDIT, 0, "w"), -12);
        due("13 ahead of 14", post(x, 1, 0, EDIT, 1, "w"), -13);
        due("another device", post(x, 7, 0, THREAD, 1, "w"), -14);
        due("settled ones stay", x.send(0, 0), 1);
        due("another room", post(x, 0, 1, QUOTE, 1, "w"), 1);
        due("the text is of the last edit", x.text(0, 0, 1, -1), 0);
    }

    private static void out() {
        TalkHouse x = start("10 out");
        x.join(2, 1, 0);
        type(x, "hello");
        due("write", x.write(7, 2, WORD, NONE), 0);
        due("write", x.write(7, 1, QUOTE, 203), 1);
        due("room", x.out(7, 0, 0), 2);
        due("kind", x.out(7, 0, 1), 0);
        due("of", x.out(7, 0, 2), NONE);
        due("length", x.out(7, 0, 3), 5);
        due("place", x.out(7, 0, 4), NONE);
        due("send", x.send(7, 0), 1);
        due("place", x.out(7, 0, 4), 1);
        due("room", x.out(7, 1, 0), 1);
        due("kind", x.out(7, 1, 1), 5);
        due("of", x.out(7, 1, 2), 203);
        due("what 5", x.out(7, 0, 5), BAD);
        due("what -1", x.out(7, 0, -1), BAD);
        due("number 2", x.out(7, 2, 0), BAD);
        due("number -1", x.out(7, -1, 0), BAD);
        due("device 8", x.out(8, 0, 0), BAD);
        due("device 1", x.out(1, 0, 0), BAD);
    }

    // ---- 11 to 15: the rows

    private static void entry() {
        TalkHouse x = start("11 entry");
        x.tick(2);
        x.join(1, 3, 0);
        x.tick(4);
        due("say", say(x, 3, 1, "four"), 1);
        due("edit", post(x, 3, 1, EDIT, 101, "sixsix"), 2);
        due("not pinned", x.entry(1, 1, 6), 0);
        due("pin", post(x, 3, 1, PIN, 101, "zzz"), 3);
        due("pinned", x.entry(1, 1, 6), 1);
        due("thread", post(x, 3, 1, THREAD, 101, "under"), 4);
        due("pin", post(x, 3, 1, PIN, 104, ""), 5);
        due("pin", post(x, 3, 1, PIN, 104, ""), 6);
        due("gone", post(x, 3, 1, GONE, 104, ""), 7);
        long[][] want = {
            {6, 2, 3, NONE, 0, 0, 0, 0, 0},
            {0, 6, 3, NONE, 0, 0, 1, 1, 4},
            {1, 6, 3, 101, 0, 0, 0, 0, 6},
            {4, 6, 3, 101, 0, 0, 0, 0, 0},
            {3, 6, 3, 101, 1, 0, 0, 1, 5},
            {4, 6, 3, 104, 0, 0, 0, 0, 0},
            {4, 6, 3, 104, 0, 0, 0, 0, 0},
            {2, 6, 3, 104, 0, 0, 0, 0, 0}};
        x.hold(1, 6, 6);
        for (int place = 0; place < want.length; place++) {
            for (int what = 0; what <= 8; what++) {
                due("entry(1, " + place + ", " + what + ")", x.entry(1, place, what), want[place][what]);
            }
        }
        x.hold(1, -1, -1);
        x.age(1, 0);
        due("not held", x.entry(1, 1, 7), 0);
        due("ended", x.entry(1, 1, 5), 1);
        due("pinned yet", x.entry(1, 1, 6), 1);
        due("gone yet", x.entry(1, 4, 4), 1);
        due("the join is not ended", x.entry(1, 0, 5), 0);
        due("the edit is not ended", x.entry(1, 2, 5), 0);
        due("its own length yet", x.entry(1, 1, 8), 4);
        due("what 9", x.entry(1, 0, 9), BAD);
        due("what -1", x.entry(1, 0, -1), BAD);
        due("place 8", x.entry(1, 8, 0), BAD);
        due("place -1", x.entry(1, -1, 0), BAD);
        due("room 3", x.entry(3, 0, 0), BAD);
        due("room -1", x.entry(-1, 0, 0), BAD);
        due("room 0", x.entry(0, 0, 0), BAD);
    }

    private static void isOf() {
        TalkHouse x = start("12 isOf");
        x.join(0, 0, 0);
        say(x, 0, 0, "w");
        post(x, 0, 0, EDIT, 1, "e");
        post(x, 0, 0, THREAD, 1, "t");
        post(x, 0, 0, PIN, 1, "");
        post(x, 0, 0, QUOTE, 1, "q");
        post(x, 0, 0, GONE, 1, "");
        x.leave(0, 0);
        int[] kinds = {6, 0, 1, 3, 4, 5, 2, 7};
        for (int place = 0; place < kinds.length; place++) {
            int k = kinds[place];
            for (int kind = 0; kind <= 8; kind++) {
                boolean is = k == kind
                    || (kind == 0 && (k == 3 || k == 5))
                    || (kind == 8 && (k == 1 || k == 2 || k == 4));
                due("isOf(0, " + place + ", " + kind + ")", x.isOf(0, place, kind), is ? 1 : 0);
            }
        }
        due("kind 9", x.isOf(0, 0, 9), BAD);
        due("kind -1", x.isOf(0, 0, -1), BAD);
        due("place 8", x.isOf(0, 8, 0), BAD);
        due("place -1", x.isOf(0, -1, 0), BAD);
        due("room 3", x.isOf(3, 0, 0), BAD);
        due("room -1", x.isOf(-1, 0, 0), BAD);
    }

    private static void maySee() {
        TalkHouse x = start("13 maySee");
        x.join(0, 0, 0);
        say(x, 0, 0, "a");
        x.join(0, 1, 0);
        say(x, 0, 0, "b");
        x.leave(0, 1);
        say(x, 0, 0, "c");
        int[] ofOne = {0, 0, 1, 1, 1, 0};
        for (int place = 0; place < 6; place++) {
            due("member 0, " + place, x.maySee(0, 0, place), 1);
            due("member 1, " + place, x.maySee(1, 0, place), ofOne[place]);
            due("member 2, " + place, x.maySee(2, 0, place), 0);
        }
        x.join(0, 1, 0);
        due("a later join without the past", x.maySee(1, 0, 5), 0);
        due("its own join", x.maySee(1, 0, 6), 1);
        x.leave(0, 1);
        say(x, 0, 0, "d");
        due("after it left", x.maySee(1, 0, 8), 0);
        x.join(0, 2, 1);
        due("the past of another member's join", x.maySee(1, 0, 8), 0);
        for (int place = 0; place < 10; place++) {
            due("member 2 with the past, " + place, x.maySee(2, 0, place), 1);
        }
        x.join(0, 1, 1);
        for (int place = 0; place < 11; place++) {
            due("member 1 with the past, " + place, x.maySee(1, 0, place), 1);
        }
        x.leave(0, 1);
        say(x, 0, 0, "e");
        due("the past goes on, not what comes", x.maySee(1, 0, 12), 0);
        due("and stays", x.maySee(1, 0, 0), 1);
        x.join(1, 0, 0);
        due("another room", x.maySee(1, 1, 0), 0);
        due("member 6", x.maySee(6, 0, 0), BAD);
        due("member -1", x.maySee(-1, 0, 0), BAD);
        due("place 13", x.maySee(0, 0, 13), BAD);
        due("place -1", x.maySee(0, 0, -1), BAD);
        due("room 3", x.maySee(0, 3, 0), BAD);
    }

    private static void text() {
        TalkHouse x = start("14 text");
        x.join(0, 0, 0);
        x.join(0, 1, 0);
        say(x, 0, 0, "first");
        post(x, 0, 0, EDIT, 2, "second");
        x.leave(0, 1);
        post(x, 0, 0, EDIT, 2, "3");
        dueText(x, 0, 0, 2, "3");
        dueText(x, 1, 0, 2, "second");
        x.join(0, 1, 0);
        dueText(x, 1, 0, 2, "second");
        post(x, 0, 0, EDIT, 2, "");
        dueText(x, 1, 0, 2, "");
        dueText(x, 0, 0, 2, "");
        due("of a join", x.text(0, 0, 0, -1), NO);
        due("of an edit", x.text(0, 0, 3, -1), NO);
        due("not seen", x.text(2, 0, 2, -1), NO);
        due("i -2", x.text(0, 0, 2, -2), BAD);
        due("BAD ahead of NO", x.text(2, 0, 2, -2), BAD);
        due("member 6", x.text(6, 0, 2, 0), BAD);
        due("room 3", x.text(0, 3, 2, 0), BAD);
        due("place 8", x.text(0, 0, 8, 0), BAD);
        say(x, 0, 0, "old");
        x.leave(0, 1);
        post(x, 0, 0, GONE, 8, "");
        due("gone for one who may not see that", x.maySee(1, 0, 10), 0);
        dueText(x, 1, 0, 8, "");
        x.age(0, 0);
        dueText(x, 0, 0, 2, "");
    }

    private static void kept() {
        TalkHouse x = start("15 kept");
        x.join(0, 0, 0);
        say(x, 0, 0, "first");
        dueKept(x, 0, 1, "first");
        post(x, 0, 0, EDIT, 1, "second");
        dueKept(x, 0, 1, "second");
        post(x, 0, 0, EDIT, 1, "3rd");
        dueKept(x, 0, 1, "3rd");
        post(x, 0, 0, GONE, 1, "");
        dueKept(x, 0, 1, "3rd");
        due("no said one", x.kept(0, 0, 0), NO);
        due("an edit", x.kept(0, 2, 0), NO);
        due("i -2", x.kept(0, 1, -2), BAD);
        due("BAD ahead of NO", x.kept(0, 0, -2), BAD);
        due("room 3", x.kept(3, 1, 0), BAD);
        due("room -1", x.kept(-1, 1, 0), BAD);
        due("place 5", x.kept(0, 5, 0), BAD);
        due("place -1", x.kept(0, -1, 0), BAD);
        x.age(0, 0);
        dueKept(x, 0, 1, "");
    }

    // ---- 16 to 22: copies

    private static void take() {
        TalkHouse x = start("16 take");
        x.join(0, 0, 0);
        x.join(0, 1, 0);
        say(x, 0, 0, "w");
        due("take", x.take(1, 0, 2), 1);
        due("again", x.take(1, 0, 2), 0);
        due("another device of its member", x.take(7, 0, 2), 1);
        due("ahead of its join", x.take(1, 0, 0), NO);
        due("a stranger", x.take(2, 0, 2), NO);
        x.leave(0, 1);
        post(x, 0, 0, EDIT, 2, "e");
        post(x, 0, 0, GONE, 2, "");
        due("an edit not seen", x.take(1, 0, 4), NO);
        due("gone, of what it has", x.take(1, 0, 5), 1);
        due("again", x.take(1, 0, 5), 0);
        due("gone, of what it has not", x.take(2, 0, 5), NO);
        due("entries had", x.count(8), 3);
        x.own(7, 1);
        due("what it had is none", x.take(7, 0, 5), NO);
        due("take", x.take(7, 0, 2), 1);
        due("take", x.take(7, 0, 5), 1);
        due("seen, though it has not what it is about", x.take(0, 0, 5), 1);
        due("place 6", x.take(0, 0, 6), BAD);
        due("place -1", x.take(0, 0, -1), BAD);
        due("room 3", x.take(0, 3, 0), BAD);
        due("device 8", x.take(8, 0, 0), BAD);
        due("device -1", x.take(-1, 0, 0), BAD);
    }

    private static void gap() {
        TalkHouse x = start("17 gap");
        x.join(0, 0, 0);
        due("its own room's", x.gap(0, 0), 0);
        due("another room's", x.gap(0, 1), NONE);
        due("a stranger's", x.gap(1, 0), NONE);
        x.join(0, 1, 0);
        say(x, 0, 0, "w");
        due("from its join", x.gap(1, 0), 1);
        x.take(1, 0, 1);
        x.take(1, 0, 2);
        due("none", x.gap(1, 0), NONE);
        x.leave(0, 1);
        due("its leave", x.gap(1, 0), 3);
        x.take(1, 0, 3);
        post(x, 0, 0, GONE, 2, "");
        due("a gone one that it may not see", x.gap(1, 0), NONE);
        x.join(0, 1, 1);
        due("the past", x.gap(1, 0), 0);
        x.take(1, 0, 0);
        due("the past", x.gap(1, 0), 4);
        due("device 8", x.gap(8, 0), BAD);
        due("device -1", x.gap(-1, 0), BAD);
        due("room 3", x.gap(0, 3), BAD);
        due("room -1", x.gap(0, -1), BAD);
    }

    private static void ask() {
        TalkHouse x = start("18 ask");
        x.join(0, 0, 0);
        say(x, 0, 0, "a");
        x.join(0, 1, 0);
        for (int k = 0; k < 4; k++) {
            say(x, 0, 0, "b");
        }
        due("one", x.ask(1, 0, 1), 1);
        due("the least", x.gap(1, 0), 3);
        x.take(1, 0, 4);
        due("two", x.ask(1, 0, 2), 2);
        due("over what it had", x.gap(1, 0), 6);
        due("sixty", x.ask(1, 0, 60), 1);
        due("none", x.ask(1, 0, 60), 0);
        due("had", x.count(8), 5);
        due("a stranger", x.ask(2, 0, 60), 0);
        x.leave(0, 1);
        post(x, 0, 0, GONE, 6, "");
        due("its leave, and no gone one that it may not see", x.ask(1, 0, 60), 1);
        due("n 0", x.ask(0, 0, 0), BAD);
        due("n 61", x.ask(0, 0, 61), BAD);
        due("n -1", x.ask(0, 0, -1), BAD);
        due("room 3", x.ask(0, 3, 1), BAD);
        due("device 8", x.ask(8, 0, 1), BAD);
        fillRow(x, 0, 60);
        due("all", x.ask(0, 0, 60), 60);
    }

    private static void shows() {
        TalkHouse x = start("19 shows");
        x.join(0, 0, 0);
        say(x, 0, 0, "one");
        post(x, 0, 0, EDIT, 1, "second");
        post(x, 0, 0, EDIT, 1, "3");
        post(x, 0, 0, GONE, 1, "");
        due("not had", x.shows(0, 0, 1, -1), NO);
        x.take(0, 0, 3);
        due("an edit had alone", x.shows(0, 0, 1, -1), NO);
        due("an edit is no said one", x.shows(0, 0, 3, -1), NO);
        x.take(0, 0, 1);
        dueShows(x, 0, 0, 1, "3");
        x.take(0, 0, 2);
        dueShows(x, 0, 0, 1, "3");
        x.take(6, 0, 1);
        dueShows(x, 6, 0, 1, "one");
        x.take(6, 0, 2);
        dueShows(x, 6, 0, 1, "second");
        x.take(6, 0, 4);
        dueShows(x, 6, 0, 1, "");
        dueShows(x, 0, 0, 1, "3");
        x.age(0, 0);
        dueShows(x, 0, 0, 1, "");
        due("i -2", x.shows(0, 0, 1, -2), BAD);
        due("BAD ahead of NO", x.shows(1, 0, 1, -2), BAD);
        due("device 8", x.shows(8, 0, 1, 0), BAD);
        due("room 3", x.shows(0, 3, 1, 0), BAD);
        due("place 5", x.shows(0, 0, 5, 0), BAD);
    }

    private static void quoted() {
        TalkHouse x = start("20 quoted");
        x.join(0, 0, 0);
        x.join(1, 0, 0);
        x.join(1, 1, 0);
        due("say", say(x, 0, 0, "src"), 1);
        due("quote", post(x, 0, 1, QUOTE, 1, "q"), 2);
        due("quote of a quote", post(x, 0, 1, QUOTE, 102, "qq"), 3);
        due("has it not", x.quoted(0, 1, 2), NO);
        x.take(0, 1, 2);
        due("has not what it is of", x.quoted(0, 1, 2), NONE);
        x.take(0, 0, 1);
        due("has both", x.quoted(0, 1, 2), 1);
        x.take(1, 1, 2);
        due("another member's", x.quoted(1, 1, 2), NONE);
        x.take(1, 1, 3);
        due("of a quote", x.quoted(1, 1, 3), 102);
        due("no quote", x.quoted(0, 0, 1), NO);
        post(x, 0, 0, GONE, 1, "");
        due("a gone one that it has not", x.quoted(0, 1, 2), 1);
        x.take(0, 0, 2);
        due("a gone one that it has", x.quoted(0, 1, 2), NONE);
        x.take(6, 0, 1);
        x.take(6, 1, 2);
        due("the other device", x.quoted(6, 1, 2), 1);
        x.age(0, 0);
        due("ended", x.quoted(6, 1, 2), NONE);
        x.age(1, 0);
        due("ended", x.quoted(1, 1, 3), NONE);
        due("device 8", x.quoted(8, 1, 2), BAD);
        due("room 3", x.quoted(0, 3, 2), BAD);
        due("place 4", x.quoted(0, 1, 4), BAD);
        due("place -1", x.quoted(0, 1, -1), BAD);
    }

    private static void behind() {
        TalkHouse x = start("21 behind");
        x.join(0, 0, 0);
        x.join(0, 1, 0);
        x.join(0, 2, 0);
        due("say", say(x, 0, 0, "w"), 3);
        x.take(0, 0, 3);
        x.take(1, 0, 3);
        x.take(7, 0, 3);
        x.take(2, 0, 3);
        due("nothing to be behind with", x.behind(0, 3), 0);
        due("pin", post(x, 0, 0, PIN, 3, ""), 4);
        due("a pin counts for nothing", x.behind(0, 3), 0);
        due("edit", post(x, 0, 0, EDIT, 3, "e"), 5);
        due("all that have it", x.behind(0, 3), 4);
        x.take(7, 0, 5);
        due("one less", x.behind(0, 3), 3);
        x.leave(0, 1);
        due("edit", post(x, 0, 0, EDIT, 3, "f"), 7);
        due("an edit that its member may not see", x.behind(0, 3), 3);
        x.take(1, 0, 5);
        due("0 and 2", x.behind(0, 3), 2);
        x.take(2, 0, 7);
        due("an earlier edit, too", x.behind(0, 3), 2);
        x.take(2, 0, 5);
        due("0 alone", x.behind(0, 3), 1);
        due("gone", post(x, 0, 0, GONE, 3, ""), 8);
        due("a gone one, any", x.behind(0, 3), 4);
        x.take(1, 0, 8);
        x.take(7, 0, 8);
        due("0 and 2", x.behind(0, 3), 2);
        x.take(0, 0, 8);
        due("0 has not the edits", x.behind(0, 3), 2);
        due("ended", x.age(0, 0), 1);
        due("ended counts for nothing here", x.behind(0, 3), 2);
        due("no said one", x.behind(0, 5), NO);
        due("a join", x.behind(0, 0), NO);
        due("place 9", x.behind(0, 9), BAD);
        due("place -1", x.behind(0, -1), BAD);
        due("room 3", x.behind(3, 0), BAD);
    }

    private static void sum() {
        TalkHouse x = start("22 sum");
        x.join(0, 0, 0);
        say(x, 0, 0, "Ab");
        post(x, 0, 0, EDIT, 1, "z");
        due("nothing", x.sum(0, 0), 7);
        x.take(0, 0, 1);
        long h = ((7L * 31 + 1) * 31 * 31 + 'A') * 31 + 'b';
        due("a word", x.sum(0, 0), h);
        x.take(0, 0, 2);
        h = ((7L * 31 + 1) * 31 * 31 + 'z') * 31 + 2;
        due("and its edit", x.sum(0, 0), h * 31 + 1);
        x.take(0, 0, 0);
        h = (((7L * 31 * 31 + 6) * 31 + 1) * 31 * 31 + 'z') * 31 + 2;
        due("and the join ahead", x.sum(0, 0), h * 31 + 1);
        due("another room", x.sum(0, 1), 7);
        x.age(0, 0);
        h = ((7L * 31 * 31 + 6) * 31 + 1) * 31 * 31 + 2;
        due("ended", x.sum(0, 0), h * 31 + 1);
        due("device 8", x.sum(8, 0), 0);
        due("device -1", x.sum(-1, 0), 0);
        due("room 3", x.sum(0, 3), 0);
        due("room -1", x.sum(0, -1), 0);
    }

    // ---- 23 to 26: marks, search

    private static void mark() {
        TalkHouse x = start("23 mark");
        due("nothing there", x.mark(0, 0, 0), BAD);
        due("-1", x.mark(0, 0, -1), -1);
        x.join(0, 0, 0);
        say(x, 0, 0, "a");
        say(x, 0, 0, "b");
        due("1", x.mark(4, 0, 1), 1);
        due("back", x.mark(4, 0, 0), 1);
        due("-1", x.mark(4, 0, -1), 1);
        due("on", x.mark(4, 0, 2), 2);
        due("not there", x.mark(4, 0, 3), BAD);
        due("-2", x.mark(4, 0, -2), BAD);
        due("kept", x.mark(4, 0, -1), 2);
        due("another member", x.mark(3, 0, -1), -1);
        due("another room", x.mark(4, 1, -1), -1);
        due("member 6", x.mark(6, 0, 0), BAD);
        due("member -1", x.mark(-1, 0, 0), BAD);
        due("room 3", x.mark(0, 3, -1), BAD);
        due("room -1", x.mark(0, -1, -1), BAD);
    }

    private static void unread() {
        TalkHouse x = start("24 unread");
        x.join(0, 0, 0);
        say(x, 0, 0, "ahead");
        x.join(0, 1, 0);
        say(x, 0, 0, "a");
        post(x, 0, 0, EDIT, 3, "e");
        post(x, 0, 0, PIN, 3, "");
        post(x, 0, 0, THREAD, 3, "t");
        post(x, 1, 0, QUOTE, 3, "q");
        due("by others", x.unread(1, 0), 2);
        due("by others", x.unread(0, 0), 1);
        due("a stranger", x.unread(2, 0), 0);
        x.mark(1, 0, 2);
        due("ahead of them", x.unread(1, 0), 2);
        x.mark(1, 0, 3);
        due("the first is read", x.unread(1, 0), 1);
        post(x, 0, 0, GONE, 6, "");
        due("gone", x.unread(1, 0), 0);
        x.leave(0, 1);
        say(x, 0, 0, "b");
        due("not seen", x.unread(1, 0), 0);
        x.join(0, 1, 1);
        due("the past", x.unread(1, 0), 1);
        x.age(0, 0);
        due("ended", x.unread(1, 0), 0);
        due("ended", x.unread(0, 0), 0);
        due("member 6", x.unread(6, 0), BAD);
        due("member -1", x.unread(-1, 0), BAD);
        due("room 3", x.unread(0, 3), BAD);
        due("room -1", x.unread(0, -1), BAD);
    }

    private static void find() {
        TalkHouse x = start("25 find");
        x.join(0, 0, 0);
        x.join(0, 1, 0);
        say(x, 0, 0, "[aaB`@z{");
        say(x, 0, 0, "nothing");
        post(x, 0, 0, THREAD, 2, "aAb");
        x.leave(0, 1);
        post(x, 0, 0, EDIT, 4, "else");
        post(x, 0, 0, QUOTE, 2, "xAAB");
        due("empty tape", x.find(0, 0, 0), NO);
        due("BAD ahead of NO", x.find(0, 0, -1), BAD);
        type(x, "Aab");
        due("inside", x.find(0, 0, 0), 2);
        due("at the end", x.find(0, 0, 1), 7);
        due("no more", x.find(0, 0, 2), NONE);
        due("the one who left reads the old text", x.find(1, 0, 1), 4);
        due("and not what came then", x.find(1, 0, 2), NONE);
        due("the tape stays", x.count(4), 3);
        due("large i", x.find(0, 0, Integer.MAX_VALUE), NONE);
        x.blank();
        type(x, "{");
        due("only letters are folded", x.find(0, 0, 0), 2);
        x.blank();
        type(x, "`@Z");
        due("only letters are folded", x.find(0, 0, 0), 2);
        x.blank();
        type(x, "@@");
        due("only letters are folded", x.find(0, 0, 0), NONE);
        x.blank();
        type(x, "ELSE");
        due("of an edit", x.find(0, 0, 0), 4);
        x.blank();
        type(x, "elsewhere");
        due("longer than the text", x.find(0, 0, 0), NONE);
        x.blank();
        post(x, 0, 0, GONE, 2, "");
        type(x, "a");
        due("gone ones are not found", x.find(0, 0, 0), 7);
        x.age(0, 0);
        due("ended ones are not found", x.find(0, 0, 0), NONE);
        due("member 6", x.find(6, 0, 0), BAD);
        due("member -1", x.find(-1, 0, 0), BAD);
        due("room 3", x.find(0, 3, 0), BAD);
        due("another room", x.find(0, 1, 0), NONE);
    }

    private static void thread() {
        TalkHouse x = start("26 thread");
        x.join(0, 0, 0);
        x.join(0, 1, 0);
        say(x, 0, 0, "root");
        post(x, 0, 0, THREAD, 2, "a");
        post(x, 0, 0, THREAD, 3, "under a");
        post(x, 1, 0, THREAD, 2, "b");
        post(x, 0, 0, QUOTE, 2, "no thread");
        x.leave(0, 1);
        post(x, 0, 0, THREAD, 2, "c");
        due("first", x.thread(0, 0, 2, 0), 3);
        due("second", x.thread(0, 0, 2, 1), 5);
        due("third", x.thread(0, 0, 2, 2), 8);
        due("no more", x.thread(0, 0, 2, 3), NONE);
        due("large i", x.thread(0, 0, 2, Integer.MAX_VALUE), NONE);
        due("not seen", x.thread(1, 0, 2, 2), NONE);
        due("under a thread", x.thread(0, 0, 3, 0), 4);
        due("under none", x.thread(0, 0, 6, 0), NONE);
        post(x, 0, 0, GONE, 3, "");
        due("a gone one is passed over", x.thread(0, 0, 2, 0), 5);
        due("what is under a gone one stays", x.thread(0, 0, 3, 0), 4);
        x.tick(1);
        say(x, 0, 0, "later");
        x.age(0, 1);
        due("ended", x.thread(0, 0, 2, 0), NONE);
        due("no said one", x.thread(0, 0, 0, 0), NO);
        due("a gone entry", x.thread(0, 0, 9, 0), NO);
        due("may not see it", x.thread(2, 0, 2, 0), NO);
        due("i -1", x.thread(0, 0, 2, -1), BAD);
        due("BAD ahead of NO", x.thread(0, 0, 0, -1), BAD);
        due("member 6", x.thread(6, 0, 2, 0), BAD);
        due("place 11", x.thread(0, 0, 11, 0), BAD);
        due("room 3", x.thread(0, 3, 2, 0), BAD);
        x.join(1, 0, 0);
        say(x, 6, 1, "other root");
        post(x, 6, 1, THREAD, 101, "d");
        due("a thread of its own room", x.thread(0, 1, 1, 0), 2);
        due("none of another room", x.thread(0, 1, 2, 0), NONE);
    }

    // ---- 27 to 29: law

    private static void hold() {
        TalkHouse x = start("27 hold");
        x.join(0, 0, 0);
        for (int k = 0; k < 5; k++) {
            say(x, 0, 0, "w");
            x.tick(1);
        }
        due("from and to are both in it", x.hold(0, 1, 3), 3);
        due("below", x.entry(0, 1, 7), 0);
        due("from", x.entry(0, 2, 7), 1);
        due("to", x.entry(0, 4, 7), 1);
        due("above", x.entry(0, 5, 7), 0);
        due("one time", x.hold(0, 2, 2), 1);
        due("the whole time", x.hold(0, 0, 1000000), 5);
        due("the join is no said one", x.entry(0, 0, 7), 0);
        due("age", x.age(0, 0), 0);
        due("another hold lets some go", x.hold(0, 3, 4), 2);
        due("they are ended", x.count(3), 3);
        due("ended ones count too", x.hold(0, 0, 4), 5);
        due("none", x.hold(0, -1, -1), 0);
        due("all are ended", x.count(3), 5);
        due("from above to", x.hold(0, 5, 4), BAD);
        due("-1 and 0", x.hold(0, -1, 0), BAD);
        due("0 and -1", x.hold(0, 0, -1), BAD);
        due("-2 and -2", x.hold(0, -2, -2), BAD);
        due("to above", x.hold(0, 0, 1000001), BAD);
        due("both above", x.hold(0, 1000001, 1000001), BAD);
        due("the last time", x.hold(0, 1000000, 1000000), 0);
        due("room 3", x.hold(3, 0, 1), BAD);
        due("room -1", x.hold(-1, 0, 1), BAD);
        due("another room", x.hold(1, 0, 10), 0);
        x.hold(0, 0, 4);
        due("a refused one changes nothing", x.hold(0, 9, 8), BAD);
        due("held yet", x.entry(0, 1, 7), 1);
    }

    private static void age() {
        TalkHouse x = start("28 age");
        x.join(0, 0, 0);
        x.join(1, 0, 0);
        say(x, 0, 0, "a");
        say(x, 0, 1, "b");
        x.tick(5);
        say(x, 0, 0, "c");
        due("6", x.age(0, 6), 0);
        due("5", x.age(0, 5), 1);
        due("of that room alone", x.count(3), 1);
        due("0", x.age(0, 0), 2);
        due("none", x.age(0, NONE), 2);
        say(x, 0, 0, "d");
        x.tick(1000);
        due("no age, no end", x.entry(0, 3, 5), 0);
        due("1000", x.age(0, 1000), 3);
        due("1001", x.age(0, 1001), BAD);
        due("-1", x.age(0, -1), BAD);
        due("room 3", x.age(3, 5), BAD);
        due("room -1", x.age(-1, 5), BAD);
        due("1000 of the other", x.age(1, 1000), 1);
        say(x, 0, 1, "e");
        due("a refused one ends nothing", x.age(1, 1001), BAD);
        x.tick(999);
        due("not so old", x.entry(1, 2, 5), 0);
        due("a refused tick", x.tick(-1), BAD);
        x.tick(1);
        due("so old", x.entry(1, 2, 5), 1);
    }

    private static void endsStay() {
        TalkHouse x = start("28 ends stay, and come behind tick, age, hold");
        x.join(0, 0, 0);
        x.join(1, 0, 0);
        x.age(0, 0);
        say(x, 0, 0, "a");
        due("not ended as it comes", x.entry(0, 1, 5), 0);
        due("it can be spoken of", post(x, 0, 0, THREAD, 1, "t"), 2);
        x.age(1, 5);
        x.hold(1, 0, 3);
        due("a call for another room", x.entry(0, 1, 5), 0);
        x.tick(0);
        due("tick(0)", x.count(3), 2);
        x.age(0, NONE);
        due("they stay so", x.count(3), 2);
        x.hold(0, 0, 1000);
        due("they stay so when held", x.count(3), 2);
        x.age(0, 0);
        say(x, 0, 0, "b");
        due("held", x.tick(1000), 1000);
        due("held ones do not end", x.entry(0, 3, 5), 0);
        due("the hold goes", x.hold(0, -1, -1), 0);
        due("it is ended", x.entry(0, 3, 5), 1);
    }

    private static void count() {
        TalkHouse x = start("29 count");
        x.join(0, 0, 0);
        x.join(1, 0, 0);
        x.tick(3);
        say(x, 0, 0, "a");
        say(x, 6, 1, "b");
        post(x, 0, 0, EDIT, 1, "c");
        post(x, 0, 0, THREAD, 1, "c");
        post(x, 0, 1, QUOTE, 1, "c");
        post(x, 0, 0, GONE, 1, "");
        post(x, 0, 0, GONE, 3, "");
        post(x, 0, 0, GONE, 3, "");
        x.age(1, 0);
        x.ask(0, 0, 4);
        x.ask(6, 1, 2);
        type(x, "tape");
        int[] want = {9, 4, 2, 2, 4, 3, 8, 1, 6};
        for (int what = 0; what <= 8; what++) {
            due("count(" + what + ")", x.count(what), want[what]);
        }
        due("9", x.count(9), BAD);
        due("-1", x.count(-1), BAD);
    }

    // ---- wrong inputs

    /** A full row has no place behind its last one. */
    private static void fullRow() {
        TalkHouse x = start("a full row");
        x.join(0, 0, 0);
        fillRow(x, 0, 60);
        due("entry 59", x.entry(0, 59, 0), 6);
        due("entry 60", x.entry(0, 60, 0), BAD);
        due("isOf 60", x.isOf(0, 60, 0), BAD);
        due("maySee 60", x.maySee(0, 0, 60), BAD);
        due("text 60", x.text(0, 0, 60, 0), BAD);
        due("kept 60", x.kept(0, 60, 0), BAD);
        due("take 59", x.take(0, 0, 59), 1);
        due("take 60", x.take(0, 0, 60), BAD);
        due("shows 60", x.shows(0, 0, 60, 0), BAD);
        due("quoted 60", x.quoted(0, 0, 60), BAD);
        due("behind 60", x.behind(0, 60), BAD);
        due("thread 60", x.thread(0, 0, 60, 0), BAD);
        due("mark 59", x.mark(0, 0, 59), 59);
        due("mark 60", x.mark(0, 0, 60), BAD);
        due("unread behind the last", x.unread(0, 0), 0);
        due("sum", x.sum(0, 0), (7L * 31 + 59) * 31 + 6);
    }

    /** Each wild value in each argument where no value so far out is right. */
    private static void wrongInputs() {
        TalkHouse x = start("wrong inputs");
        x.join(0, 0, 0);
        say(x, 0, 0, "w");
        for (int w : WILD) {
            due("own", x.own(w, 0), BAD);
            due("own", x.own(0, w), BAD);
            due("join", x.join(w, 0, 0), BAD);
            due("join", x.join(0, w, 0), BAD);
            due("join", x.join(0, 0, w), BAD);
            due("leave", x.leave(w, 0), BAD);
            due("leave", x.leave(0, w), BAD);
            due("tick", x.tick(w), BAD);
            due("feed", x.feed(0x4141414141414141L, w), BAD);
            due("write", x.write(w, 0, WORD, NONE), BAD);
            due("write", x.write(0, w, WORD, NONE), BAD);
            due("write", x.write(0, 0, w, 1), BAD);
            due("write", x.write(0, 0, QUOTE, w), BAD);
            due("send", x.send(w, 0), BAD);
            due("send", x.send(0, w), BAD);
            due("out", x.out(w, 0, 0), BAD);
            due("out", x.out(0, w, 0), BAD);
            due("out", x.out(0, 0, w), BAD);
            due("entry", x.entry(w, 0, 0), BAD);
            due("entry", x.entry(0, w, 0), BAD);
            due("entry", x.entry(0, 0, w), BAD);
            due("isOf", x.isOf(w, 0, 0), BAD);
            due("isOf", x.isOf(0, w, 0), BAD);
            due("isOf", x.isOf(0, 0, w), BAD);
        }
        TalkHouse y = start("wrong inputs");
        y.join(0, 0, 0);
        say(y, 0, 0, "w");
        for (int w : WILD) {
            due("maySee", y.maySee(w, 0, 0), BAD);
            due("maySee", y.maySee(0, w, 0), BAD);
            due("maySee", y.maySee(0, 0, w), BAD);
            due("text", y.text(w, 0, 1, 0), BAD);
            due("text", y.text(0, w, 1, 0), BAD);
            due("text", y.text(0, 0, w, 0), BAD);
            due("text", y.text(0, 0, 1, w), w < 0 ? BAD : NONE);
            due("kept", y.kept(w, 1, 0), BAD);
            due("kept", y.kept(0, w, 0), BAD);
            due("kept", y.kept(0, 1, w), w < 0 ? BAD : NONE);
            due("take", y.take(w, 0, 0), BAD);
            due("take", y.take(0, w, 0), BAD);
            due("take", y.take(0, 0, w), BAD);
            due("gap", y.gap(w, 0), BAD);
            due("gap", y.gap(0, w), BAD);
            due("ask", y.ask(w, 0, 1), BAD);
            due("ask", y.ask(0, w, 1), BAD);
            due("ask", y.ask(0, 0, w), BAD);
            due("shows", y.shows(w, 0, 1, 0), BAD);
            due("shows", y.shows(0, w, 1, 0), BAD);
            due("shows", y.shows(0, 0, w, 0), BAD);
            due("shows", y.shows(0, 0, 1, w), w < 0 ? BAD : NO);
            due("quoted", y.quoted(w, 0, 1), BAD);
            due("quoted", y.quoted(0, w, 1), BAD);
            due("quoted", y.quoted(0, 0, w), BAD);
            due("behind", y.behind(w, 1), BAD);
            due("behind", y.behind(0, w), BAD);
            due("sum", y.sum(w, 0), 0);
            due("sum", y.sum(0, w), 0);
            due("mark", y.mark(w, 0, 0), BAD);
            due("mark", y.mark(0, w, 0), BAD);
            due("mark", y.mark(0, 0, w), BAD);
            due("unread", y.unread(w, 0), BAD);
            due("unread", y.unread(0, w), BAD);
            due("find", y.find(w, 0, 0), BAD);
            due("find", y.find(0, w, 0), BAD);
            due("find", y.find(0, 0, w), w < 0 ? BAD : NO);
            due("thread", y.thread(w, 0, 1, 0), BAD);
            due("thread", y.thread(0, w, 1, 0), BAD);
            due("thread", y.thread(0, 0, w, 0), BAD);
            due("thread", y.thread(0, 0, 1, w), w < 0 ? BAD : NONE);
            due("hold", y.hold(w, 0, 1), BAD);
            due("hold", y.hold(0, w, 0), BAD);
            due("hold", y.hold(0, 1001, w), w == 1001 ? 0 : BAD);
            due("age", y.age(w, 1), BAD);
            due("age", y.age(0, w), w == NONE ? 0 : BAD);
            due("count", y.count(w), BAD);
        }
    }

    private static void wrongInputsChangeNothing() {
        TalkHouse x = start("refused calls change nothing");
        x.join(0, 0, 0);
        say(x, 0, 0, "w");
        x.age(0, 10);
        x.hold(0, 0, 0);
        x.ask(0, 0, 60);
        x.mark(0, 0, 1);
        type(x, "t");
        x.own(0, 6);
        x.join(0, 0, 1);
        x.leave(0, 1);
        x.tick(1001);
        x.feed(0x4100L, 2);
        x.take(1, 0, 0);
        x.ask(0, 0, 61);
        x.mark(0, 0, 2);
        x.hold(0, 2, 1);
        x.age(0, 1001);
        int[] want = {2, 1, 0, 0, 1, 0, 1, 0, 2};
        for (int what = 0; what <= 8; what++) {
            due("count(" + what + ")", x.count(what), want[what]);
        }
        due("mark", x.mark(0, 0, -1), 1);
        due("held", x.entry(0, 1, 7), 1);
        x.tick(10);
        due("held yet", x.entry(0, 1, 5), 0);
        x.hold(0, -1, -1);
        due("the age stands", x.entry(0, 1, 5), 1);
    }
}
