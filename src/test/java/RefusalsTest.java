import java.util.ArrayList;
import java.util.List;
import java.util.function.Supplier;

/**
 * "A call that is refused answers one of BAD, NO, FULL, of several the one that stands first with it, and
 * changes nothing (but the tape, where told)." For each refusal two objects come to the same scene, one is
 * refused, and then both are asked and led on alike: all their answers must be the same.
 */
public final class RefusalsTest extends Checks {
    private interface Act {
        long on(TalkHouse x);
    }

    private interface Probe {
        void ask(TalkHouse x, List<Long> answers);
    }

    private static final Probe[] PROBES = {
        RefusalsTest::askCounts, RefusalsTest::askEntries, RefusalsTest::askSight, RefusalsTest::askTexts,
        RefusalsTest::askCopies, RefusalsTest::askLetters, RefusalsTest::askSearch, RefusalsTest::leadMembers,
        RefusalsTest::leadTape, RefusalsTest::leadLaw, RefusalsTest::leadCopies, RefusalsTest::leadOwners};

    private static Supplier<TalkHouse> scene;

    public static void main(String[] args) {
        theProbesSeeEachChange();
        peopleRefused();
        lettersRefused();
        writeRefused();
        rowsRefused();
        copiesRefused();
        searchRefused();
        lawRefused();
        fullRefused();
        emptyRefused();
        joinOrder();
        leaveOrder();
        feedOrder();
        writeOrder();
        sendOrder();
        readOrder();
        end("all refusals are as due, and change nothing");
    }

    // ---- scenes

    /**
     * Room 0: joins of 0 and 1, "Hello" edited and gone, "bye" with a thread and a pin, 1 left. Room 1: a quote of
     * "bye". Device 0 has letters that are not taken, the tape has "by", marks, ages and a hold stand.
     */
    private static TalkHouse talk() {
        TalkHouse x = new TalkHouse();
        x.join(0, 0, 0);
        x.join(0, 1, 0);
        say(x, 0, 0, "Hello");
        x.tick(3);
        post(x, 0, 0, EDIT, 2, "Howdy");
        say(x, 1, 0, "bye");
        post(x, 1, 0, THREAD, 4, "thread");
        post(x, 0, 0, PIN, 4, "");
        x.leave(0, 1);
        post(x, 0, 0, GONE, 2, "");
        x.join(1, 0, 0);
        post(x, 0, 1, QUOTE, 4, "q");
        x.join(1, 2, 1);
        x.ask(0, 0, 5);
        x.ask(1, 0, 60);
        x.ask(6, 1, 1);
        x.mark(0, 0, 4);
        x.mark(2, 1, 0);
        x.age(0, 9);
        x.age(1, 5);
        x.hold(0, 3, 3);
        x.write(2, 0, WORD, NONE);
        x.write(0, 0, PIN, 0);
        x.write(0, 0, EDIT, 4);
        type(x, "by");
        return x;
    }

    /** Room 0, the out of device 0 and the tape are full; members 0 and 1 are in, 2 is not. */
    private static TalkHouse full() {
        TalkHouse x = new TalkHouse();
        x.join(0, 0, 0);
        x.join(0, 1, 0);
        x.join(1, 0, 0);
        say(x, 0, 0, "w");
        fillRow(x, 0, 60);
        for (int k = 1; k < 12; k++) {
            x.write(0, 0, WORD, NONE);
        }
        x.write(1, 0, EDIT, 2);
        x.write(1, 0, EDIT, 0);
        x.write(2, 0, THREAD, 2);
        type(x, LONGEST);
        return x;
    }

    // ---- probes: what can be asked, and what shows only as one goes on

    private static void askCounts(TalkHouse x, List<Long> answers) {
        for (int what = 0; what <= 8; what++) {
            answers.add((long) x.count(what));
        }
        for (int room = 0; room < 3; room++) {
            for (int m = 0; m < 6; m++) {
                answers.add((long) x.mark(m, room, -1));
                answers.add((long) x.unread(m, room));
            }
        }
    }

    private static void askEntries(TalkHouse x, List<Long> answers) {
        for (int room = 0; room < 3; room++) {
            for (int place = 0; place < 12; place++) {
                for (int what = 0; what <= 8; what++) {
                    answers.add((long) x.entry(room, place, what));
                }
            }
        }
    }

    private static void askSight(TalkHouse x, List<Long> answers) {
        for (int room = 0; room < 3; room++) {
            for (int place = 0; place < 12; place++) {
                for (int m = 0; m < 6; m++) {
                    answers.add((long) x.maySee(m, room, place));
                }
            }
        }
    }

    private static void askTexts(TalkHouse x, List<Long> answers) {
        for (int place = 0; place < 10; place++) {
            for (int i = -1; i < 5; i++) {
                answers.add((long) x.text(0, 0, place, i));
                answers.add((long) x.text(1, 0, place, i));
                answers.add((long) x.kept(0, place, i));
                answers.add((long) x.shows(1, 0, place, i));
            }
        }
    }

    private static void askCopies(TalkHouse x, List<Long> answers) {
        for (int room = 0; room < 3; room++) {
            for (int d = 0; d < 8; d++) {
                answers.add(x.sum(d, room));
                answers.add((long) x.gap(d, room));
                answers.add((long) x.quoted(d, room, 1));
            }
            for (int place = 0; place < 12; place++) {
                answers.add((long) x.behind(room, place));
            }
        }
    }

    private static void askLetters(TalkHouse x, List<Long> answers) {
        for (int d = 0; d < 3; d++) {
            for (int number = 0; number < 13; number++) {
                for (int what = 0; what <= 4; what++) {
                    answers.add((long) x.out(d, number, what));
                }
            }
        }
    }

    private static void askSearch(TalkHouse x, List<Long> answers) {
        for (int room = 0; room < 3; room++) {
            for (int m = 0; m < 6; m++) {
                for (int i = 0; i < 3; i++) {
                    answers.add((long) x.find(m, room, i));
                    answers.add((long) x.thread(m, room, 4, i));
                }
            }
        }
    }

    private static void leadMembers(TalkHouse x, List<Long> answers) {
        for (int room = 0; room < 3; room++) {
            for (int m = 0; m < 6; m++) {
                answers.add((long) x.leave(room, m));
                answers.add((long) x.join(room, m, 0));
                answers.add((long) x.maySee(m, room, 1));
            }
        }
    }

    private static void leadTape(TalkHouse x, List<Long> answers) {
        answers.add((long) x.feed('!', 1));
        answers.add((long) x.join(2, 3, 0));
        answers.add((long) x.write(3, 2, WORD, NONE));
        answers.add((long) x.send(3, 0));
        for (int i = -1; i <= 24; i++) {
            answers.add((long) x.text(3, 2, 1, i));
        }
        for (int d = 0; d < 8; d++) {
            answers.add((long) x.write(d, 0, WORD, NONE));
        }
    }

    private static void leadLaw(TalkHouse x, List<Long> answers) {
        for (int k = 0; k < 14; k++) {
            answers.add((long) x.tick(k == 0 ? 0 : 1));
            answers.add((long) x.count(3));
            for (int place = 2; place <= 5; place++) {
                answers.add((long) x.entry(0, place, 5));
                answers.add((long) x.entry(0, place, 7));
            }
            answers.add((long) x.entry(1, 1, 5));
        }
        for (int room = 0; room < 3; room++) {
            answers.add((long) x.hold(room, -1, -1));
            answers.add((long) x.age(room, 0));
        }
    }

    private static void leadCopies(TalkHouse x, List<Long> answers) {
        for (int room = 0; room < 3; room++) {
            for (int d = 0; d < 8; d++) {
                answers.add((long) x.take(d, room, 2));
                answers.add((long) x.ask(d, room, 2));
                answers.add((long) x.gap(d, room));
                answers.add((long) x.ask(d, room, 60));
                answers.add(x.sum(d, room));
            }
        }
    }

    private static void leadOwners(TalkHouse x, List<Long> answers) {
        for (int d = 0; d < 3; d++) {
            for (int number = 0; number < 12; number++) {
                answers.add((long) x.send(d, number));
            }
        }
        for (int d = 0; d < 8; d++) {
            answers.add((long) x.own(d, 5));
        }
        for (int what = 0; what <= 8; what++) {
            answers.add((long) x.count(what));
        }
    }

    // ---- twins

    private static List<Long> answersTo(Probe probe, TalkHouse x) {
        List<Long> answers = new ArrayList<>();
        probe.ask(x, answers);
        return answers;
    }

    private static boolean areAlike(Act one, Act other) {
        for (Probe probe : PROBES) {
            TalkHouse x = scene.get(), y = scene.get();
            one.on(x);
            other.on(y);
            if (!answersTo(probe, x).equals(answersTo(probe, y))) {
                return false;
            }
        }
        return true;
    }

    private static void refused(String call, long want, Act act) {
        due(call, act.on(scene.get()), want);
        due(call + ": changed nothing", areAlike(act, x -> 0) ? 1 : 0, 1);
    }

    /** The tape is taken by write, whatever it answers; nothing else is changed. */
    private static void refusedButTheTape(String call, long want, Act act) {
        due(call, act.on(scene.get()), want);
        due(call + ": took the tape", areAlike(act, x -> x.blank()) ? 1 : 0, 1);
        due(call + ": took the tape", areAlike(act, x -> 0) ? 1 : 0, 0);
    }

    /** A twin test is worth nothing if its probes are blind: each of these acts must show. */
    private static void theProbesSeeEachChange() {
        part("the probes see each change");
        scene = RefusalsTest::talk;
        Act[] acts = {
            x -> x.own(0, 0), x -> x.own(7, 2), x -> x.join(0, 2, 0), x -> x.join(2, 2, 0), x -> x.leave(1, 2),
            x -> x.tick(1), x -> x.feed(65, 1), x -> x.blank(), x -> x.take(6, 0, 0), x -> x.ask(0, 0, 1),
            x -> x.mark(0, 0, 5), x -> x.mark(5, 1, 0), x -> x.hold(0, 3, 4), x -> x.hold(0, -1, -1),
            x -> x.hold(1, 3, 3), x -> x.age(0, 8), x -> x.age(0, NONE), x -> x.age(1, 6), x -> x.age(2, 5)};
        for (int k = 0; k < acts.length; k++) {
            // An age of a room without said ones, or a hold of a time at which none came, shows nothing.
            boolean shows = k != 12 && k != acts.length - 1;
            due("act " + k, areAlike(acts[k], x -> 0) ? 0 : 1, shows ? 1 : 0);
        }
        due("a letter", areAlike(x -> x.write(5, 2, WORD, NONE), x -> x.blank()) ? 0 : 1, 1);
    }

    // ---- refusals

    private static void peopleRefused() {
        part("2 to 5, refused");
        scene = RefusalsTest::talk;
        refused("own(-1, 0)", BAD, x -> x.own(-1, 0));
        refused("own(8, 0)", BAD, x -> x.own(8, 0));
        refused("own(0, -1)", BAD, x -> x.own(0, -1));
        refused("own(0, 6)", BAD, x -> x.own(0, 6));
        refused("join(-1, 2, 1)", BAD, x -> x.join(-1, 2, 1));
        refused("join(3, 2, 1)", BAD, x -> x.join(3, 2, 1));
        refused("join(0, -1, 1)", BAD, x -> x.join(0, -1, 1));
        refused("join(0, 6, 1)", BAD, x -> x.join(0, 6, 1));
        refused("join(0, 2, -1)", BAD, x -> x.join(0, 2, -1));
        refused("join(0, 2, 2)", BAD, x -> x.join(0, 2, 2));
        refused("join(1, 0, 1)", NO, x -> x.join(1, 0, 1));
        refused("join(1, 2, 0)", NO, x -> x.join(1, 2, 0));
        refused("leave(-1, 0)", BAD, x -> x.leave(-1, 0));
        refused("leave(3, 0)", BAD, x -> x.leave(3, 0));
        refused("leave(0, -1)", BAD, x -> x.leave(0, -1));
        refused("leave(0, 6)", BAD, x -> x.leave(0, 6));
        refused("leave(0, 1): it left", NO, x -> x.leave(0, 1));
        refused("leave(2, 0): never in", NO, x -> x.leave(2, 0));
        refused("tick(-1)", BAD, x -> x.tick(-1));
        refused("tick(1001)", BAD, x -> x.tick(1001));
    }

    private static void lettersRefused() {
        part("6, 9, 10, refused");
        scene = RefusalsTest::talk;
        refused("feed, n 0", BAD, x -> x.feed(65, 0));
        refused("feed, n 9", BAD, x -> x.feed(0x4141414141414141L, 9));
        refused("feed, 31 last", BAD, x -> x.feed(0x411FL, 2));
        refused("feed, 127 first", BAD, x -> x.feed(0x7F41L, 2));
        refused("send(-1, 0)", BAD, x -> x.send(-1, 0));
        refused("send(8, 0)", BAD, x -> x.send(8, 0));
        refused("send(0, -1)", BAD, x -> x.send(0, -1));
        refused("send(2, 1)", BAD, x -> x.send(2, 1));
        refused("send(2, 0): not in", -11, x -> x.send(2, 0));
        refused("send(0, 5): about a join", -12, x -> x.send(0, 5));
        refused("send(0, 6): about another's", -13, x -> x.send(0, 6));
        refused("send(0, 0): it came already", 2, x -> x.send(0, 0));
        refused("out(-1, 0, 0)", BAD, x -> x.out(-1, 0, 0));
        refused("out(8, 0, 0)", BAD, x -> x.out(8, 0, 0));
        refused("out(0, 7, 0)", BAD, x -> x.out(0, 7, 0));
        refused("out(0, 0, 5)", BAD, x -> x.out(0, 0, 5));
    }

    private static void writeRefused() {
        part("8, refused");
        scene = RefusalsTest::talk;
        refusedButTheTape("device -1", BAD, x -> x.write(-1, 0, WORD, NONE));
        refusedButTheTape("device 8", BAD, x -> x.write(8, 0, WORD, NONE));
        refusedButTheTape("room -1", BAD, x -> x.write(0, -1, WORD, NONE));
        refusedButTheTape("room 3", BAD, x -> x.write(0, 3, WORD, NONE));
        refusedButTheTape("kind -1", BAD, x -> x.write(0, 0, -1, NONE));
        refusedButTheTape("kind 6", BAD, x -> x.write(0, 0, 6, 2));
        refusedButTheTape("a word of one", BAD, x -> x.write(0, 0, WORD, 2));
        refusedButTheTape("an edit of none", BAD, x -> x.write(0, 0, EDIT, NONE));
        refusedButTheTape("a pin of place 60", BAD, x -> x.write(0, 0, PIN, 60));
        refusedButTheTape("a thread of another room", BAD, x -> x.write(0, 0, THREAD, 101));
        refusedButTheTape("a quote of room 3", BAD, x -> x.write(0, 0, QUOTE, 300));
    }

    private static void rowsRefused() {
        part("11 to 15, refused");
        scene = RefusalsTest::talk;
        refused("entry(3, 0, 0)", BAD, x -> x.entry(3, 0, 0));
        refused("entry(0, 9, 0)", BAD, x -> x.entry(0, 9, 0));
        refused("entry(0, 0, 9)", BAD, x -> x.entry(0, 0, 9));
        refused("isOf(0, 9, 0)", BAD, x -> x.isOf(0, 9, 0));
        refused("isOf(0, 0, 9)", BAD, x -> x.isOf(0, 0, 9));
        refused("maySee(6, 0, 0)", BAD, x -> x.maySee(6, 0, 0));
        refused("maySee(0, 2, 0)", BAD, x -> x.maySee(0, 2, 0));
        refused("text(0, 0, 4, -2)", BAD, x -> x.text(0, 0, 4, -2));
        refused("text of an edit", NO, x -> x.text(0, 0, 3, 0));
        refused("text not seen", NO, x -> x.text(3, 0, 4, 0));
        refused("kept(0, 4, -2)", BAD, x -> x.kept(0, 4, -2));
        refused("kept of a pin", NO, x -> x.kept(0, 6, 0));
    }

    private static void copiesRefused() {
        part("16 to 22, refused");
        scene = RefusalsTest::talk;
        refused("take(8, 0, 0)", BAD, x -> x.take(8, 0, 0));
        refused("take(0, 3, 0)", BAD, x -> x.take(0, 3, 0));
        refused("take(0, 0, 9)", BAD, x -> x.take(0, 0, 9));
        refused("take(0, 0, -1)", BAD, x -> x.take(0, 0, -1));
        refused("take, not seen", NO, x -> x.take(1, 0, 0));
        refused("take a gone one of what it has not", NO, x -> x.take(7, 0, 8));
        refused("gap(8, 0)", BAD, x -> x.gap(8, 0));
        refused("ask(8, 0, 1)", BAD, x -> x.ask(8, 0, 1));
        refused("ask(0, 3, 1)", BAD, x -> x.ask(0, 3, 1));
        refused("ask(0, 0, 0)", BAD, x -> x.ask(0, 0, 0));
        refused("ask(0, 0, 61)", BAD, x -> x.ask(0, 0, 61));
        refused("shows(0, 0, 2, -2)", BAD, x -> x.shows(0, 0, 2, -2));
        refused("shows of a join", NO, x -> x.shows(0, 0, 0, 0));
        refused("shows what it has not", NO, x -> x.shows(0, 0, 5, 0));
        refused("quoted(0, 1, 3)", BAD, x -> x.quoted(0, 1, 3));
        refused("quoted of a word", NO, x -> x.quoted(0, 0, 2));
        refused("quoted, it has it not", NO, x -> x.quoted(0, 1, 1));
        refused("behind(0, 9)", BAD, x -> x.behind(0, 9));
        refused("behind with an edit", NO, x -> x.behind(0, 3));
        refused("sum(8, 0)", 0, x -> x.sum(8, 0));
        refused("sum(0, 3)", 0, x -> x.sum(0, 3));
    }

    private static void searchRefused() {
        part("23 to 26, refused");
        scene = RefusalsTest::talk;
        refused("mark(6, 0, 5)", BAD, x -> x.mark(6, 0, 5));
        refused("mark(0, 3, -1)", BAD, x -> x.mark(0, 3, -1));
        refused("mark(0, 0, -2)", BAD, x -> x.mark(0, 0, -2));
        refused("mark(0, 0, 9)", BAD, x -> x.mark(0, 0, 9));
        refused("mark(0, 2, 0)", BAD, x -> x.mark(0, 2, 0));
        refused("mark back", 4, x -> x.mark(0, 0, 3));
        refused("unread(6, 0)", BAD, x -> x.unread(6, 0));
        refused("find(0, 0, -1)", BAD, x -> x.find(0, 0, -1));
        refused("find, which lets the tape stay", 4, x -> x.find(0, 0, 0));
        refused("thread(0, 0, 4, -1)", BAD, x -> x.thread(0, 0, 4, -1));
        refused("thread under a pin", NO, x -> x.thread(0, 0, 6, 0));
        refused("thread, not seen", NO, x -> x.thread(3, 0, 4, 0));
    }

    private static void lawRefused() {
        part("27 to 29, refused");
        scene = RefusalsTest::talk;
        refused("hold(-1, 0, 1)", BAD, x -> x.hold(-1, 0, 1));
        refused("hold(3, 0, 1)", BAD, x -> x.hold(3, 0, 1));
        refused("hold(0, 1, 0)", BAD, x -> x.hold(0, 1, 0));
        refused("hold(0, -1, 0)", BAD, x -> x.hold(0, -1, 0));
        refused("hold(0, 0, -1)", BAD, x -> x.hold(0, 0, -1));
        refused("hold(0, -2, -2)", BAD, x -> x.hold(0, -2, -2));
        refused("hold(0, 0, 1000001)", BAD, x -> x.hold(0, 0, 1000001));
        refused("age(-1, 0)", BAD, x -> x.age(-1, 0));
        refused("age(3, 0)", BAD, x -> x.age(3, 0));
        refused("age(0, -1)", BAD, x -> x.age(0, -1));
        refused("age(0, 1001)", BAD, x -> x.age(0, 1001));
        refused("count(-1)", BAD, x -> x.count(-1));
        refused("count(9)", BAD, x -> x.count(9));
    }

    private static void fullRefused() {
        part("FULL, refused");
        scene = RefusalsTest::full;
        refused("join", FULL, x -> x.join(0, 2, 0));
        refused("join with the past", FULL, x -> x.join(0, 2, 1));
        refused("leave", FULL, x -> x.leave(0, 0));
        refused("feed", FULL, x -> x.feed(65, 1));
        refused("feed eight", FULL, x -> x.feed(0x4141414141414141L, 8));
        refused("send", -14, x -> x.send(0, 1));
        refusedButTheTape("write", FULL, x -> x.write(0, 0, WORD, NONE));
        refusedButTheTape("write into another room", FULL, x -> x.write(0, 1, WORD, NONE));
        refusedButTheTape("write a pin", FULL, x -> x.write(0, 0, PIN, 2));
    }

    private static void emptyRefused() {
        part("of an empty house, refused");
        scene = TalkHouse::new;
        refused("leave", NO, x -> x.leave(0, 0));
        refused("find", NO, x -> x.find(0, 0, 0));
        refused("send", BAD, x -> x.send(0, 0));
        refused("out", BAD, x -> x.out(0, 0, 0));
        refused("take", BAD, x -> x.take(0, 0, 0));
        refused("mark", BAD, x -> x.mark(0, 0, 0));
        refused("blank", 0, x -> x.blank());
        refused("gap", NONE, x -> x.gap(0, 0));
        refused("ask", 0, x -> x.ask(0, 0, 60));
        refused("own to the same", 0, x -> x.own(0, 0));
        refused("no hold", 0, x -> x.hold(0, -1, -1));
        refused("no age", 0, x -> x.age(0, NONE));
    }

    // ---- of several the one that stands first

    private static void joinOrder() {
        part("3 BAD; NO; FULL");
        due("in, full, past 2", full().join(0, 0, 2), BAD);
        due("in, full, past -1", full().join(0, 0, -1), BAD);
        due("in, full", full().join(0, 0, 0), NO);
        due("in, full, with the past", full().join(0, 1, 1), NO);
        due("full", full().join(0, 2, 0), FULL);
        due("full, past 2", full().join(0, 2, 2), BAD);
        due("full, no such member", full().join(0, 6, 0), BAD);
        due("another room", full().join(1, 2, 0), 1);
    }

    private static void leaveOrder() {
        part("4 BAD; NO; FULL");
        due("full, no such member", full().leave(0, 6), BAD);
        due("full, no such member", full().leave(0, -1), BAD);
        due("full, not in", full().leave(0, 2), NO);
        due("full", full().leave(0, 0), FULL);
        due("another room", full().leave(1, 0), 1);
    }

    private static void feedOrder() {
        part("6 BAD; FULL");
        due("full, n 0", full().feed(65, 0), BAD);
        due("full, n 9", full().feed(0x4141414141414141L, 9), BAD);
        due("full, 31", full().feed(31, 1), BAD);
        due("full, 127 first", full().feed(0x7F41414141414141L, 8), BAD);
        due("full, 127 last", full().feed(0x414141414141417FL, 8), BAD);
        due("full", full().feed(0x4141414141414141L, 8), FULL);
        TalkHouse x = new TalkHouse();
        type(x, LONGEST.substring(0, 23));
        due("it would be full, and then a byte that is none", x.feed(0x411FL, 2), BAD);
        due("it would be full", x.feed(0x4141L, 2), FULL);
    }

    private static void writeOrder() {
        part("8 BAD; FULL");
        due("full, room 3", full().write(0, 3, WORD, NONE), BAD);
        due("full, room -1", full().write(0, -1, WORD, NONE), BAD);
        due("full, kind 6", full().write(0, 0, 6, NONE), BAD);
        due("full, kind -1", full().write(0, 0, -1, NONE), BAD);
        due("full, a word of one", full().write(0, 0, WORD, 0), BAD);
        due("full, an edit of none", full().write(0, 0, EDIT, NONE), BAD);
        due("full, a pin of another room", full().write(0, 0, PIN, 101), BAD);
        due("full, a quote of place 60", full().write(0, 0, QUOTE, 260), BAD);
        due("full", full().write(0, 0, QUOTE, 259), FULL);
        due("another device", full().write(6, 0, QUOTE, 259), 0);
    }

    private static void sendOrder() {
        part("9 BAD; 1 .. 4");
        due("no such number", full().send(0, 12), BAD);
        due("not in, full", full().send(2, 0), -11);
        due("no such number, not in", full().send(2, 1), BAD);
        due("about a join, another's, full", full().send(1, 1), -12);
        due("another's, full", full().send(1, 0), -13);
        due("full", full().send(0, 11), -14);
        TalkHouse x = full();
        x.write(3, 0, EDIT, 0);
        due("not in, not seen, another's, full", x.send(3, 0), -11);
        due("settled, full", x.send(0, 0), 2);
    }

    private static void readOrder() {
        part("14 to 26 BAD; NO");
        due("text: not seen, i -2", talk().text(3, 0, 4, -2), BAD);
        due("text: a join, i -2", talk().text(0, 0, 0, -2), BAD);
        due("text: a join, no such member", talk().text(6, 0, 0, 0), BAD);
        due("text: a join, behind its end", talk().text(0, 0, 0, 9), NO);
        due("text: not seen, behind its end", talk().text(3, 0, 4, 9), NO);
        due("kept: a join, i -2", talk().kept(0, 0, -2), BAD);
        due("kept: a join, behind its end", talk().kept(0, 0, 9), NO);
        due("take: not seen, place 9", talk().take(3, 0, 9), BAD);
        due("shows: not had, i -2", talk().shows(3, 0, 4, -2), BAD);
        due("shows: a join, i -2", talk().shows(0, 0, 0, -2), BAD);
        due("shows: not had, behind its end", talk().shows(3, 0, 4, 9), NO);
        due("quoted: no quote, no such device", talk().quoted(8, 0, 0), BAD);
        due("quoted: no quote, not had", talk().quoted(3, 0, 0), NO);
        due("behind: no such room", talk().behind(3, 0), BAD);
        due("find: an empty tape, no such member", new TalkHouse().find(6, 0, 0), BAD);
        due("find: an empty tape, no such room", new TalkHouse().find(0, 3, 0), BAD);
        due("find: an empty tape, i -1", new TalkHouse().find(0, 0, -1), BAD);
        due("find: an empty tape, nothing there", new TalkHouse().find(0, 0, 5), NO);
        due("thread: a join, i -1", talk().thread(0, 0, 0, -1), BAD);
        due("thread: not seen, i -1", talk().thread(3, 0, 4, -1), BAD);
        due("thread: a join, no such member", talk().thread(6, 0, 0, 0), BAD);
        due("thread: not seen, i 9", talk().thread(3, 0, 4, 9), NO);
    }
}
