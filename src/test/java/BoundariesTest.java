import java.math.BigInteger;
import java.util.Arrays;

/**
 * A part for each sentence of the document that names a boundary: empty, full, the first and the last, just
 * ahead of and just behind, a wrap-around. The ranges of the arguments are in RangesTest, refusals in RefusalsTest.
 */
public final class BoundariesTest extends Checks {
    public static void main(String[] args) {
        people();
        tapes();
        rows();
        letters();
        keeper();
        saidOnes();
        copies();
        marks();
        search();
        law();
        sums();
        counts();
        end("all boundaries are kept");
    }

    private static void people() {
        devicesWrapOverMembers();
        ownOfAFullDevice();
        inARoom();
        seesFromItsJoin();
        seesUpToItsLeave();
        seesThePast();
        thePastOfAnEarlierJoin();
        ticks();
        theLastCall();
    }

    private static void tapes() {
        tapeOfTwentyFour();
        feedOverTheEnd();
        highestByteFirst();
        blankTape();
        tapeIsTakenWhateverIsAnswered();
    }

    private static void rows() {
        rowOfSixty();
        joinAtTheEnd();
        leaveAtTheEnd();
        eachRoomItsOwnRow();
        ofWhat();
        aSaidOneAtTheLastPlace();
    }

    private static void letters() {
        outOfTwelve();
        noTextOfGoneAndPin();
        emptyAndLongestText();
        sentInAnyOrder();
        sentAgain();
        notTakenStays();
    }

    private static void keeper() {
        keeperAsksIfIn();
        keeperAsksForASaidOne();
        keeperAsksIfThere();
        keeperAsksIfSeen();
        keeperAsksIfEnded();
        keeperAsksWhose();
        keeperAsksIfGone();
        keeperAsksForRoom();
    }

    private static void saidOnes() {
        goneOnes();
        pinsAnOddNumber();
        textOfAMember();
        textOfGoneAndEnded();
        keptText();
        kindsOfAWord();
    }

    private static void copies() {
        takeTwice();
        takeAGoneOne();
        gapAtBothEnds();
        askForTheLeast();
        showsWhatItHas();
        showsNone();
        quotedOnes();
        behindNoneAndAll();
        behindWithAnEdit();
        behindWithAGoneOne();
    }

    private static void marks() {
        marksGoOn();
        unreadBehindTheMark();
        unreadOfWhom();
        unreadAtMost();
    }

    private static void search() {
        foldedLetters();
        hasAWantedOne();
        foundForAMember();
        foundInAFullRow();
        threadsUnder();
    }

    private static void law() {
        heldFromTo();
        holdOfOneRoom();
        endsAtItsAge();
        endsAtTheLeastAndTheGreatestAge();
        endsBehindWhichCalls();
        endsOfOneRoom();
        heldDoesNotEnd();
        endedStaysSo();
        onlySaidOnesEnd();
    }

    private static void sums() {
        sumByPlaces();
        sumOfWhatItShows();
        sumWraps();
    }

    private static void counts() {
        fullHouse();
    }

    // ---- members, devices, time

    private static void devicesWrapOverMembers() {
        TalkHouse x = start("1 DEVICE d is of MEMBER d modulo 6 at first");
        for (int m = 0; m < 6; m++) {
            x.join(0, m, 0);
        }
        int[] of = {0, 1, 2, 3, 4, 5, 0, 1};
        for (int d = 0; d < 8; d++) {
            due("say", say(x, d, 0, ""), 6 + d);
            due("by", x.entry(0, 6 + d, 2), of[d]);
            due("own", x.own(d, 5), of[d]);
            due("own", x.own(d, 0), 5);
        }
    }

    private static void ownOfAFullDevice() {
        TalkHouse x = start("2 its OUT, what it has, all are none");
        x.join(0, 0, 0);
        x.join(2, 0, 0);
        fillRow(x, 0, 60);
        for (int k = 0; k < 12; k++) {
            x.write(0, 0, WORD, NONE);
        }
        due("its out is full", x.write(0, 0, WORD, NONE), FULL);
        due("it has a full row", x.ask(0, 0, 60), 60);
        due("and of another room", x.ask(0, 2, 60), 1);
        x.ask(6, 0, 60);
        due("own", x.own(0, 0), 0);
        due("letters", x.count(6), 0);
        due("the other device has its row yet", x.count(8), 60);
        due("nothing of the full row", x.sum(0, 0), 7);
        due("nothing of the other", x.sum(0, 2), 7);
        due("no letter 0", x.out(0, 0, 0), BAD);
        due("no letter 11", x.send(0, 11), BAD);
        due("letters from 0", x.write(0, 0, WORD, NONE), 0);
        due("all are to be had again", x.ask(0, 0, 60), 60);
    }

    private static void inARoom() {
        TalkHouse x = start("1 IN a ROOM is a MEMBER, if the latest JOIN or LEAVE of its there is a JOIN");
        due("never", say(x, 0, 0, ""), -11);
        x.join(1, 0, 0);
        due("in another room", say(x, 0, 0, ""), -11);
        x.join(0, 1, 0);
        due("another is in", say(x, 0, 0, ""), -11);
        due("join", x.join(0, 0, 0), 1);
        due("in", say(x, 0, 0, ""), 2);
        due("leave", x.leave(0, 0), 3);
        due("out", say(x, 0, 0, ""), -11);
        due("the other is in yet", say(x, 1, 0, ""), 4);
        due("join", x.join(0, 0, 1), 5);
        due("in again", say(x, 0, 0, ""), 6);
    }

    private static void seesFromItsJoin() {
        TalkHouse x = start("1 its latest JOIN or LEAVE ahead of that PLACE, or at it, is a JOIN");
        x.join(0, 0, 0);
        say(x, 0, 0, "ahead");
        x.join(0, 1, 0);
        say(x, 0, 0, "behind");
        due("ahead of its join", x.maySee(1, 0, 1), 0);
        due("at its join", x.maySee(1, 0, 2), 1);
        due("behind its join", x.maySee(1, 0, 3), 1);
        due("the first place of all", x.maySee(1, 0, 0), 0);
        due("who joined there", x.maySee(0, 0, 0), 1);
        due("never in", x.maySee(2, 0, 2), 0);
    }

    private static void seesUpToItsLeave() {
        TalkHouse x = start("1 also its own LEAVE");
        x.join(0, 0, 0);
        x.join(0, 1, 0);
        x.leave(0, 1);
        x.leave(0, 0);
        x.join(0, 0, 0);
        x.leave(0, 0);
        due("its own leave", x.maySee(1, 0, 2), 1);
        due("another's leave behind that", x.maySee(1, 0, 3), 0);
        due("another's leave while in", x.maySee(0, 0, 2), 1);
        due("its own", x.maySee(0, 0, 3), 1);
        due("in again", x.maySee(0, 0, 4), 1);
        due("its own again", x.maySee(0, 0, 5), 1);
        due("the one who stayed out", x.maySee(1, 0, 5), 0);
    }

    private static void seesThePast() {
        TalkHouse x = start("1 or if some later JOIN of its was WITH THE PAST");
        due("nothing ahead of it", x.join(0, 0, 1), 0);
        say(x, 0, 0, "");
        x.leave(0, 0);
        x.join(0, 1, 0);
        say(x, 1, 0, "");
        x.join(0, 0, 0);
        due("while it was out", x.maySee(0, 0, 3), 0);
        due("while it was out", x.maySee(0, 0, 4), 0);
        x.leave(0, 0);
        due("join with the past", x.join(0, 0, 1), 7);
        for (int place = 0; place <= 7; place++) {
            due("all that is ahead, and it", x.maySee(0, 0, place), 1);
        }
        due("the other has no past", x.maySee(1, 0, 2), 0);
        due("the other sees from its join", x.maySee(1, 0, 3), 1);
        x.join(1, 2, 0);
        due("the past of one room", x.maySee(0, 1, 0), 0);
    }

    private static void thePastOfAnEarlierJoin() {
        TalkHouse x = start("1 a JOIN WITH THE PAST opens nothing that comes behind its LEAVE");
        x.join(0, 1, 0);
        x.join(0, 0, 1);
        x.leave(0, 0);
        say(x, 1, 0, "");
        due("join without the past", x.join(0, 0, 0), 4);
        due("between", x.maySee(0, 0, 3), 0);
        due("ahead of the first join", x.maySee(0, 0, 0), 1);
        due("its leave", x.maySee(0, 0, 2), 1);
        due("its second join", x.maySee(0, 0, 4), 1);
    }

    private static void ticks() {
        TalkHouse x = start("5 BAD: also if it would be above 1000000");
        due("0 at first", x.count(5), 0);
        for (int k = 1; k <= 999; k++) {
            x.tick(1000);
        }
        due("999000", x.count(5), 999000);
        due("999999", x.tick(999), 999999);
        due("1000001", x.tick(2), BAD);
        due("a refused one adds nothing", x.count(5), 999999);
        due("1000000", x.tick(1), 1000000);
        due("1000001", x.tick(1), BAD);
        due("1001000", x.tick(1000), BAD);
        due("no more, none less", x.tick(0), 1000000);
        // Behind 512 calls all is free: this limit is kept to where no run can see it.
    }

    private static void theLastCall() {
        TalkHouse x = start("an object is used for at most 512 calls");
        for (int call = 1; call < 512; call++) {
            due("tick", x.tick(1000), 1000 * call);
        }
        due("the 512th", x.tick(1000), 512000);
        TalkHouse y = start("an object is used for at most 512 calls");
        y.join(0, 0, 0);
        for (int call = 2; call < 512; call++) {
            due("refused", y.join(0, 0, 0), NO);
        }
        due("the 512th", y.leave(0, 0), 1);
    }

    // ---- the tape

    private static void tapeOfTwentyFour() {
        TalkHouse x = start("1 THE TAPE has up to 24 bytes, 32 .. 126 each");
        x.join(0, 0, 0);
        due("empty at first", x.count(4), 0);
        for (int k = 1; k <= 24; k++) {
            due("one more", x.feed(k == 1 ? 32 : k == 24 ? 126 : 64 + k, 1), k);
        }
        due("the 25th", x.feed(65, 1), FULL);
        due("24 yet", x.count(4), 24);
        due("all are taken", say(x, 0, 0, ""), 1);
        dueText(x, 0, 0, 1, " BCDEFGHIJKLMNOPQRSTUVW~");
        due("none is left", x.count(4), 0);
        due("from the first again", x.feed(65, 1), 1);
    }

    private static void feedOverTheEnd() {
        part("6 FULL: it would have more than 24");
        for (int had = 0; had <= 24; had++) {
            for (int n = 1; n <= 8; n++) {
                TalkHouse x = new TalkHouse();
                type(x, LONGEST.substring(0, had));
                boolean fits = had + n <= 24;
                due(had + " and " + n, x.feed(0x4142434445464748L, n), fits ? had + n : FULL);
                due("a refused one adds none of its bytes", x.count(4), fits ? had + n : had);
            }
        }
    }

    private static void highestByteFirst() {
        TalkHouse x = start("6 bytes of v, the highest of these n first");
        x.join(0, 0, 0);
        due("one", x.feed(0x4142434445464748L, 1), 1);
        due("two", x.feed(0x4142434445464748L, 2), 3);
        due("seven, with a byte above that is none", x.feed(0xFF42434445464748L, 7), 10);
        due("eight", x.feed(0x4142434445464748L, 8), 18);
        due("eight, a byte of 128", x.feed(0x8042434445464748L, 8), BAD);
        due("say", say(x, 0, 0, ""), 1);
        dueText(x, 0, 0, 1, "HGHBCDEFGHABCDEFGH");
    }

    private static void blankTape() {
        TalkHouse x = start("7 THE TAPE is empty: how many it had");
        due("empty", x.blank(), 0);
        type(x, LONGEST);
        due("full", x.blank(), 24);
        due("empty then", x.blank(), 0);
        due("nothing to find with", x.find(0, 0, 0), NO);
        due("it takes eight again", x.feed(0x4142434445464748L, 8), 8);
        due("eight", x.blank(), 8);
    }

    private static void tapeIsTakenWhateverIsAnswered() {
        part("1 an act that writes a TEXT takes all that it has (it is empty then, whatever is answered)");
        int[][] calls = {
            {0, 0, WORD, NONE, 0}, {0, 0, EDIT, 0, 0}, {0, 0, GONE, 0, 0}, {0, 0, THREAD, 0, 0},
            {0, 0, PIN, 0, 0}, {0, 0, QUOTE, 0, 0}, {-1, 0, WORD, NONE, BAD}, {8, 0, WORD, NONE, BAD},
            {0, -1, WORD, NONE, BAD}, {0, 3, WORD, NONE, BAD}, {0, 0, -1, NONE, BAD}, {0, 0, 6, 0, BAD},
            {0, 0, WORD, 0, BAD}, {0, 0, EDIT, NONE, BAD}, {0, 0, GONE, 60, BAD}, {0, 0, PIN, 100, BAD}};
        for (int[] call : calls) {
            TalkHouse x = new TalkHouse();
            type(x, LONGEST);
            due("write", x.write(call[0], call[1], call[2], call[3]), call[4]);
            due("bytes left", x.count(4), 0);
            due("nothing to find with", x.find(0, 0, 0), NO);
        }
        TalkHouse x = new TalkHouse();
        for (int k = 0; k < 12; k++) {
            x.write(0, 0, WORD, NONE);
        }
        type(x, LONGEST);
        due("write", x.write(0, 0, WORD, NONE), FULL);
        due("bytes left", x.count(4), 0);
    }

    // ---- the rows

    private static void rowOfSixty() {
        TalkHouse x = start("1 ENTRIES, 60 at most, numbered from 0 as they came");
        x.join(0, 0, 0);
        for (int k = 1; k < 60; k++) {
            if (k % 12 == 1) {
                x.own(0, 0);
            }
            due("say", say(x, 0, 0, "w"), k);
        }
        due("the 61st, said", say(x, 6, 0, "w"), -14);
        due("the 61st, a join", x.join(0, 1, 0), FULL);
        due("the 61st, a leave", x.leave(0, 0), FULL);
        due("the last one is there", x.entry(0, 59, 0), WORD);
        due("none behind it", x.entry(0, 60, 0), BAD);
        due("entries", x.count(0), 60);
        due("all can be had", x.ask(0, 0, 60), 60);
        due("no gap", x.gap(0, 0), NONE);
        due("read to the last", x.mark(1, 0, 59), 59);
    }

    private static void joinAtTheEnd() {
        TalkHouse x = start("3 join: BAD; NO: it is IN; FULL");
        x.join(0, 0, 0);
        fillRow(x, 0, 59);
        due("the last place", x.join(0, 1, 1), 59);
        due("it sees all", x.maySee(1, 0, 0), 1);
        due("no place", x.join(0, 2, 1), FULL);
        due("that one is not in", x.leave(0, 2), NO);
        due("and sees nothing", x.maySee(2, 0, 0), 0);
        due("nor the last", x.maySee(2, 0, 59), 0);
        due("in already, NO stands ahead of FULL", x.join(0, 1, 0), NO);
        due("BAD stands ahead of both", x.join(0, 1, 2), BAD);
    }

    private static void leaveAtTheEnd() {
        TalkHouse x = start("4 leave: BAD; NO: it is not IN; FULL");
        x.join(0, 0, 0);
        x.join(0, 1, 0);
        fillRow(x, 0, 59);
        due("the last place", x.leave(0, 1), 59);
        due("no place", x.leave(0, 0), FULL);
        due("that one is in yet", x.join(0, 0, 0), NO);
        due("not in, NO stands ahead of FULL", x.leave(0, 1), NO);
        due("BAD stands ahead of both", x.leave(0, 6), BAD);
        TalkHouse y = start("4 leave, of an empty room");
        for (int room = 0; room < 3; room++) {
            due("nobody is in", y.leave(room, 0), NO);
        }
    }

    private static void eachRoomItsOwnRow() {
        TalkHouse x = start("1 THE ROW of a ROOM");
        for (int room = 0; room < 3; room++) {
            x.join(room, 0, 0);
        }
        fillRow(x, 1, 60);
        due("full", say(x, 0, 1, ""), -14);
        due("the room below", say(x, 0, 0, ""), 1);
        due("the room above", say(x, 0, 2, ""), 1);
        due("a quote of it into another", post(x, 0, 0, QUOTE, 201, ""), 2);
    }

    private static void ofWhat() {
        TalkHouse x = start("11 of what, as 100 * room + place (NONE)");
        x.join(0, 0, 0);
        say(x, 0, 0, "w");
        int[] kinds = {THREAD, QUOTE, EDIT, PIN, GONE};
        for (int kind : kinds) {
            post(x, 0, 0, kind, 1, "");
        }
        x.leave(0, 0);
        for (int place = 0; place < 8; place++) {
            due("of " + place, x.entry(0, place, 3), place >= 2 && place <= 6 ? 1 : NONE);
        }
        due("a join's text", x.entry(0, 0, 8), 0);
        due("a leave's text", x.entry(0, 7, 8), 0);
    }

    private static void aSaidOneAtTheLastPlace() {
        TalkHouse x = start("1 a SAID one at the last PLACE of the last ROOM");
        x.join(2, 0, 0);
        x.join(2, 1, 0);
        x.join(1, 0, 0);
        fillRow(x, 2, 59);
        due("said", say(x, 0, 2, "last"), 59);
        due("a quote of it, in another room", post(x, 0, 1, QUOTE, 259, "q"), 1);
        due("of", x.entry(1, 1, 3), 259);
        due("under it, but no room", post(x, 0, 2, THREAD, 259, "t"), -14);
        due("all", x.ask(0, 2, 60), 60);
        due("both", x.ask(0, 1, 60), 2);
        due("quoted", x.quoted(0, 1, 1), 259);
        dueText(x, 0, 2, 59, "last");
        dueKept(x, 2, 59, "last");
        dueShows(x, 0, 2, 59, "last");
        due("behind", x.behind(2, 59), 0);
        due("no thread", x.thread(0, 2, 59, 0), NONE);
        due("unread", x.unread(1, 2), 1);
        type(x, "LAST");
        due("found", x.find(0, 2, 0), 59);
        due("held", x.hold(2, 0, 0), 1);
        due("held", x.entry(2, 59, 7), 1);
        due("held", x.age(2, 0), 0);
        due("no hold", x.hold(2, -1, -1), 0);
        due("ended", x.entry(2, 59, 5), 1);
        due("ended", x.quoted(0, 1, 1), NONE);
    }

    // ---- letters

    private static void outOfTwelve() {
        TalkHouse x = start("2 into its OUT, 12 at most, numbered from 0");
        x.join(0, 0, 0);
        for (int d = 0; d < 8; d++) {
            for (int k = 0; k < 12; k++) {
                due("write", x.write(d, 0, WORD, NONE), k);
            }
            due("the 13th", x.write(d, 0, WORD, NONE), FULL);
            due("none such", x.out(d, 12, 0), BAD);
            due("the 12th is there", x.out(d, 11, 1), WORD);
        }
        due("letters", x.count(6), 96);
        due("sent", x.send(0, 11), 1);
        due("it stays in out all the same", x.write(0, 0, WORD, NONE), FULL);
        due("letters", x.count(6), 96);
        due("not settled", x.count(7), 95);
    }

    private static void noTextOfGoneAndPin() {
        TalkHouse x = start("2 with a TEXT (of GONE and PINNED none)");
        x.join(0, 0, 0);
        say(x, 0, 0, "w");
        long[] lengths = {24, 24, 0, 24, 0, 24};
        int[] kinds = {EDIT, THREAD, QUOTE, PIN, GONE};
        for (int k = 0; k < kinds.length; k++) {
            due("post", post(x, 0, 0, kinds[k], 1, LONGEST), 2 + k);
            due("letter's length", x.out(0, 1 + k, 3), lengths[kinds[k]]);
            due("entry's length", x.entry(0, 2 + k, 8), lengths[kinds[k]]);
            due("the tape is taken", x.count(4), 0);
        }
    }

    private static void emptyAndLongestText() {
        TalkHouse x = start("14 (i -1: how long it is). NONE: it has not so many");
        x.join(0, 0, 0);
        due("empty", say(x, 0, 0, ""), 1);
        due("longest", say(x, 0, 0, LONGEST), 2);
        x.ask(0, 0, 60);
        dueText(x, 0, 0, 1, "");
        dueKept(x, 0, 1, "");
        dueShows(x, 0, 0, 1, "");
        dueText(x, 0, 0, 2, LONGEST);
        dueKept(x, 0, 2, LONGEST);
        dueShows(x, 0, 0, 2, LONGEST);
        due("edit to the longest", post(x, 0, 0, EDIT, 1, LONGEST), 3);
        due("edit to empty", post(x, 0, 0, EDIT, 2, ""), 4);
        dueText(x, 0, 0, 1, LONGEST);
        dueText(x, 0, 0, 2, "");
        dueKept(x, 0, 1, LONGEST);
        dueKept(x, 0, 2, "");
        due("its own length is as it was", x.entry(0, 1, 8), 0);
        due("its own length is as it was", x.entry(0, 2, 8), 24);
    }

    private static void sentInAnyOrder() {
        TalkHouse x = start("2 SENT comes one, in any order");
        x.join(0, 0, 0);
        for (int k = 0; k < 12; k++) {
            type(x, LONGEST.substring(0, k));
            x.write(0, 0, WORD, NONE);
        }
        x.tick(9);
        for (int k = 0; k < 12; k++) {
            due("the last first", x.send(0, 11 - k), 1 + k);
            due("its text", x.entry(0, 1 + k, 8), 11 - k);
            due("the time at which it came", x.entry(0, 1 + k, 1), 9);
            x.tick(0);
        }
    }

    private static void sentAgain() {
        TalkHouse x = start("2 as often as one likes: if it came already it is the same ENTRY");
        x.join(0, 0, 0);
        x.join(0, 1, 0);
        due("said", say(x, 0, 0, "w"), 2);
        due("edit", post(x, 0, 0, EDIT, 2, "e"), 3);
        due("gone", post(x, 0, 0, GONE, 2, ""), 4);
        due("pin", post(x, 0, 0, PIN, 2, ""), 5);
        x.tick(10);
        x.age(0, 1);
        x.leave(0, 0);
        fillRow(x, 0, 60);
        for (int again = 0; again < 2; again++) {
            for (int number = 0; number < 4; number++) {
                due("not in, gone, ended, full: the same", x.send(0, number), 2 + number);
            }
        }
        due("it came at its first time", x.entry(0, 5, 1), 0);
        due("one pin", x.entry(0, 2, 6), 1);
        due("one gone", x.count(2), 1);
        due("entries", x.count(0), 60);
        due("all are settled", x.count(7), 0);
    }

    private static void notTakenStays() {
        TalkHouse x = start("2 It stays in OUT all the same (and is not settled, if it was not taken)");
        type(x, "late");
        x.write(0, 0, WORD, NONE);
        due("not in", x.send(0, 0), -11);
        due("as often as one likes", x.send(0, 0), -11);
        due("not settled", x.out(0, 0, 4), NONE);
        due("it has its text", x.out(0, 0, 3), 4);
        due("letters", x.count(6), 1);
        due("of these not settled", x.count(7), 1);
        due("no entry", x.count(0), 0);
        x.tick(3);
        x.join(0, 0, 0);
        due("taken", x.send(0, 0), 1);
        due("at its time", x.entry(0, 1, 1), 3);
        due("settled", x.out(0, 0, 4), 1);
        due("letters", x.count(6), 1);
        due("of these not settled", x.count(7), 0);
        dueText(x, 0, 0, 1, "late");
    }

    // ---- the keeper

    private static void keeperAsksIfIn() {
        TalkHouse x = start("2 1 that MEMBER is IN the ROOM");
        x.write(0, 0, WORD, NONE);
        x.write(0, 0, EDIT, 0);
        x.write(0, 0, QUOTE, 259);
        x.join(1, 0, 0);
        for (int number = 0; number < 3; number++) {
            due("not in, whatever else", x.send(0, number), -11);
        }
        x.join(0, 0, 0);
        due("in", x.send(0, 0), 1);
        due("what it is about is a join", x.send(0, 1), -12);
        x.leave(0, 0);
        due("out", x.send(0, 1), -11);
        x.join(0, 5, 0);
        x.own(0, 5);
        due("the device's member now", say(x, 0, 0, ""), 4);
        due("by", x.entry(0, 4, 2), 5);
        TalkHouse y = start("2 1 stands ahead of 4");
        fillRow(y, 0, 60);
        due("not in, and full", say(y, 0, 0, ""), -11);
    }

    private static void keeperAsksForASaidOne() {
        part("2 2 what it is ABOUT, UNDER, OF is a SAID one");
        for (int kind = EDIT; kind <= QUOTE; kind++) {
            TalkHouse x = new TalkHouse();
            x.join(0, 0, 0);
            x.join(0, 1, 0);
            say(x, 0, 0, "w");
            post(x, 0, 0, THREAD, 2, "t");
            post(x, 0, 0, QUOTE, 2, "q");
            post(x, 0, 0, EDIT, 2, "e");
            post(x, 0, 0, PIN, 2, "");
            post(x, 0, 0, GONE, 3, "");
            say(x, 0, 0, "v");
            x.leave(0, 1);
            // The thread at 3 is gone: an edit or a gone of it is refused by 3, not by 2.
            boolean change = kind == EDIT || kind == GONE;
            int[] kinds = {JOIN, JOIN, WORD, THREAD, QUOTE, EDIT, PIN, GONE, WORD, LEAVE};
            int next = kinds.length;
            for (int place = 0; place < kinds.length; place++) {
                boolean said = kinds[place] == WORD || kinds[place] == THREAD || kinds[place] == QUOTE;
                long want = !said ? -12 : change && kinds[place] == THREAD ? -13 : next++;
                due(kind + " of a " + kinds[place], post(x, 6, 0, kind, place, ""), want);
            }
        }
    }

    private static void keeperAsksIfThere() {
        TalkHouse x = start("2 2 of a PLACE at which nothing stands yet");
        x.join(0, 0, 0);
        x.write(0, 0, THREAD, 1);
        x.write(0, 0, THREAD, 59);
        x.write(0, 0, QUOTE, 100);
        x.write(0, 0, QUOTE, 259);
        for (int number = 0; number < 4; number++) {
            due("not there", x.send(0, number), -12);
        }
        due("it comes", say(x, 6, 0, "w"), 1);
        due("there now", x.send(0, 0), 2);
        fillRow(x, 0, 59);
        due("not there", x.send(0, 1), -12);
        due("under itself it can not be", x.out(0, 1, 4), NONE);
        due("the last comes", say(x, 6, 0, "w"), 59);
        due("there, but no room", x.send(0, 1), -14);
        due("an empty room", x.send(0, 2), -12);
    }

    private static void keeperAsksIfSeen() {
        part("2 2 that the MEMBER MAY SEE");
        for (int kind = EDIT; kind <= QUOTE; kind++) {
            TalkHouse x = new TalkHouse();
            x.join(0, 0, 0);
            due("ahead of its join", say(x, 0, 0, ""), 1);
            x.join(0, 1, 0);
            due("behind its join", say(x, 0, 0, ""), 3);
            boolean change = kind == EDIT || kind == GONE;
            due("not seen, and another's: 2 stands ahead of 3", post(x, 1, 0, kind, 1, ""), -12);
            due("seen", post(x, 1, 0, kind, 3, ""), change ? -13 : 4);
            x.leave(0, 1);
            x.join(0, 1, 1);
            due("with the past", x.send(1, 0), change ? -13 : 7);
        }
        TalkHouse y = start("2 2 a QUOTED one of any ROOM");
        y.join(0, 0, 0);
        y.join(1, 0, 0);
        y.join(1, 1, 0);
        due("said", say(y, 0, 0, ""), 1);
        due("not seen there", post(y, 1, 1, QUOTE, 1, ""), -12);
        y.join(0, 1, 0);
        due("in there, but later", y.send(1, 0), -12);
        y.leave(0, 1);
        y.join(0, 1, 1);
        y.leave(0, 1);
        due("seen, though not in there any more", y.send(1, 0), 2);
    }

    private static void keeperAsksIfEnded() {
        part("2 2 not ENDED");
        for (int kind = EDIT; kind <= QUOTE; kind++) {
            TalkHouse x = new TalkHouse();
            x.join(0, 0, 0);
            x.join(0, 1, 0);
            x.age(0, 2);
            due("said", say(x, 0, 0, ""), 2);
            due("gone later", say(x, 0, 0, ""), 3);
            x.tick(1);
            due("not ended", post(x, 0, 0, kind, 2, ""), 4);
            due("gone", post(x, 0, 0, GONE, 3, ""), 5);
            x.tick(1);
            due("ended", post(x, 0, 0, kind, 2, ""), -12);
            due("ended, and another's: 2 stands ahead of 3", post(x, 1, 0, kind, 2, ""), -12);
            due("ended, and gone: 2 stands ahead of 3", post(x, 0, 0, kind, 3, ""), -12);
            due("a word is of none", say(x, 0, 0, ""), 6);
        }
    }

    private static void keeperAsksWhose() {
        TalkHouse x = start("2 3 of EDIT, GONE: it is of the same MEMBER");
        x.join(0, 0, 0);
        x.join(0, 1, 0);
        due("said", say(x, 0, 0, "w"), 2);
        due("edit of another's", post(x, 1, 0, EDIT, 2, "e"), -13);
        due("gone of another's", post(x, 1, 0, GONE, 2, ""), -13);
        due("a thread under another's", post(x, 1, 0, THREAD, 2, "t"), 3);
        due("a pin of another's", post(x, 1, 0, PIN, 2, ""), 4);
        due("a quote of another's", post(x, 1, 0, QUOTE, 2, "q"), 5);
        due("its own, by its other device", post(x, 6, 0, EDIT, 2, "e"), 6);
        x.own(1, 0);
        due("a device that is its own now", post(x, 1, 0, EDIT, 2, "f"), 7);
        x.own(0, 1);
        due("the device that wrote it, of another now", post(x, 0, 0, EDIT, 2, "g"), -13);
        due("gone, by its other device", post(x, 6, 0, GONE, 2, ""), 8);
        fillRow(x, 0, 60);
        due("another's, and full: 3 stands ahead of 4", post(x, 7, 0, EDIT, 2, ""), -13);
        due("gone, and full: 3 stands ahead of 4", post(x, 6, 0, EDIT, 2, ""), -13);
        due("no said one, and full: 2 stands ahead of 4", post(x, 6, 0, EDIT, 0, ""), -12);
    }

    private static void keeperAsksIfGone() {
        TalkHouse x = start("2 3 and not GONE");
        x.join(0, 0, 0);
        due("said", say(x, 0, 0, "w"), 1);
        due("edit", post(x, 0, 0, EDIT, 1, "e"), 2);
        due("gone", post(x, 0, 0, GONE, 1, ""), 3);
        due("edit of a gone one", post(x, 0, 0, EDIT, 1, "f"), -13);
        due("gone once more", post(x, 0, 0, GONE, 1, ""), -13);
        due("a thread under it", post(x, 0, 0, THREAD, 1, "t"), 4);
        due("a pin of it", post(x, 0, 0, PIN, 1, ""), 5);
        due("a quote of it", post(x, 0, 0, QUOTE, 1, "q"), 6);
        due("one gone", x.count(2), 1);
    }

    private static void keeperAsksForRoom() {
        part("2 4 there is room");
        for (int kind = WORD; kind <= QUOTE; kind++) {
            TalkHouse x = new TalkHouse();
            int of = kind == WORD ? NONE : 1;
            x.join(0, 0, 0);
            say(x, 0, 0, "w");
            fillRow(x, 0, 59);
            x.write(0, 0, kind, of);
            x.write(6, 0, kind == GONE ? EDIT : kind, of);
            due("the last place", x.send(0, 1), 59);
            due("no place left", x.send(6, 0), kind == GONE ? -13 : -14);
            due("as often as one likes", x.send(0, 1), 59);
            due("not settled", x.out(6, 0, 4), NONE);
        }
    }

    // ---- said ones

    private static void goneOnes() {
        TalkHouse x = start("2 GONE is a SAID one, if there is a GONE ABOUT it");
        x.join(0, 0, 0);
        say(x, 0, 0, "a");
        say(x, 0, 0, "b");
        due("no gone yet", x.entry(0, 2, 4), 0);
        post(x, 0, 0, GONE, 2, "");
        due("gone", x.entry(0, 2, 4), 1);
        due("the one ahead is not", x.entry(0, 1, 4), 0);
        due("the gone entry itself is not", x.entry(0, 3, 4), 0);
        due("count", x.count(2), 1);
    }

    private static void pinsAnOddNumber() {
        TalkHouse x = start("2 PINNED, if the PINS ABOUT it are an odd number");
        x.join(0, 0, 0);
        say(x, 0, 0, "a");
        say(x, 0, 0, "b");
        due("none", x.entry(0, 1, 6), 0);
        for (int pins = 1; pins <= 7; pins++) {
            post(x, 0, 0, PIN, 1, "");
            due(pins + " pins", x.entry(0, 1, 6), pins % 2);
            due("the other one", x.entry(0, 2, 6), 0);
            due("the pin itself", x.entry(0, 2 + pins, 6), 0);
        }
        post(x, 0, 0, GONE, 1, "");
        due("gone ones too", x.entry(0, 1, 6), 1);
    }

    private static void textOfAMember() {
        TalkHouse x = start("2 the latest EDIT ABOUT it that the MEMBER MAY SEE; without one its own");
        x.join(0, 0, 0);
        x.join(0, 1, 0);
        x.join(0, 2, 0);
        say(x, 0, 0, "own");
        x.leave(0, 2);
        post(x, 0, 0, EDIT, 3, "first");
        x.leave(0, 1);
        post(x, 0, 0, EDIT, 3, "2nd");
        dueText(x, 0, 0, 3, "2nd");
        dueText(x, 1, 0, 3, "first");
        dueText(x, 2, 0, 3, "own");
        x.join(0, 2, 0);
        dueText(x, 2, 0, 3, "own");
        x.leave(0, 2);
        x.join(0, 2, 1);
        dueText(x, 2, 0, 3, "2nd");
        due("never in", x.text(3, 0, 3, -1), NO);
        due("of an edit", x.text(0, 0, 5, -1), NO);
    }

    private static void textOfGoneAndEnded() {
        TalkHouse x = start("2 none (0 long), if it is GONE or ENDED");
        x.join(0, 0, 0);
        x.join(0, 1, 0);
        say(x, 0, 0, "gone");
        say(x, 0, 0, "ended");
        post(x, 0, 0, EDIT, 2, "edited");
        x.leave(0, 1);
        post(x, 0, 0, GONE, 2, "");
        dueText(x, 0, 0, 2, "");
        due("who may not see the gone one", x.maySee(1, 0, 6), 0);
        dueText(x, 1, 0, 2, "");
        dueText(x, 0, 0, 3, "ended");
        x.age(0, 0);
        dueText(x, 0, 0, 3, "");
        dueText(x, 1, 0, 3, "");
        due("never in", x.text(2, 0, 3, -1), NO);
    }

    private static void keptText() {
        TalkHouse x = start("4 THE KEPT TEXT: of its latest EDIT, or its own, whether GONE or not; none, if it is ENDED");
        x.join(0, 0, 0);
        say(x, 0, 0, "own");
        dueKept(x, 0, 1, "own");
        post(x, 0, 0, EDIT, 1, "edit");
        post(x, 0, 0, EDIT, 1, "last");
        dueKept(x, 0, 1, "last");
        post(x, 0, 0, GONE, 1, "");
        dueKept(x, 0, 1, "last");
        say(x, 0, 0, "plain");
        post(x, 0, 0, GONE, 5, "");
        dueKept(x, 0, 5, "plain");
        due("of a gone entry", x.kept(0, 4, -1), NO);
        due("of a join", x.kept(0, 0, -1), NO);
        x.tick(4);
        x.age(0, 5);
        dueKept(x, 0, 1, "last");
        x.age(0, 4);
        dueKept(x, 0, 1, "");
        dueKept(x, 0, 5, "");
    }

    private static void kindsOfAWord() {
        TalkHouse x = start("1 THREADS and QUOTED ones are WORDS, too; KIND 8, ABOUT");
        x.join(0, 0, 0);
        say(x, 0, 0, "w");
        int[] kinds = {THREAD, QUOTE, EDIT, PIN, GONE};
        for (int kind : kinds) {
            post(x, 0, 0, kind, 1, "");
        }
        x.leave(0, 0);
        String[] is = {"6", "0", "03", "05", "18", "48", "28", "7"};
        for (int place = 0; place < is.length; place++) {
            for (int kind = 0; kind <= 8; kind++) {
                due("isOf " + place + ", " + kind, x.isOf(0, place, kind), is[place].indexOf('0' + kind) >= 0 ? 1 : 0);
            }
        }
    }

    // ---- copies

    private static void takeTwice() {
        TalkHouse x = start("16 1; 0: it had it");
        x.join(0, 0, 0);
        fillRow(x, 0, 60);
        for (int place = 0; place < 60; place += 59) {
            due("it comes", x.take(0, 0, place), 1);
            due("it had it", x.take(0, 0, place), 0);
            due("the other device", x.take(6, 0, place), 1);
        }
        due("had in all", x.count(8), 4);
        due("the first and the last", x.sum(0, 0), sumOf(0, JOIN, 59, JOIN));
    }

    private static void takeAGoneOne() {
        TalkHouse x = start("16 NO: its MEMBER may not see it (and it is no GONE ABOUT one that it has)");
        x.join(0, 0, 0);
        x.join(0, 1, 0);
        say(x, 0, 0, "a");
        say(x, 0, 0, "b");
        x.leave(0, 1);
        post(x, 0, 0, EDIT, 2, "e");
        post(x, 0, 0, PIN, 2, "");
        post(x, 0, 0, GONE, 2, "");
        post(x, 0, 0, GONE, 3, "");
        due("it has not what it is about", x.take(1, 0, 7), NO);
        due("it comes", x.take(1, 0, 2), 1);
        due("an edit about it", x.take(1, 0, 5), NO);
        due("a pin about it", x.take(1, 0, 6), NO);
        due("the gone one about another", x.take(1, 0, 8), NO);
        due("the gone one about it", x.take(1, 0, 7), 1);
        due("it had it", x.take(1, 0, 7), 0);
        due("its member's other device", x.take(7, 0, 7), NO);
        due("who may see it needs not have what it is about", x.take(0, 0, 7), 1);
        due("no gap by it", x.gap(1, 0), 1);
        x.own(1, 2);
        due("another member, what it has is none", x.take(1, 0, 7), NO);
    }

    private static void gapAtBothEnds() {
        TalkHouse x = start("17 The least PLACE that the DEVICE has not; NONE");
        due("an empty room", x.gap(0, 0), NONE);
        x.join(0, 0, 0);
        fillRow(x, 0, 60);
        due("the first", x.gap(0, 0), 0);
        for (int place = 0; place < 60; place++) {
            due("the least", x.gap(0, 0), place);
            x.take(0, 0, place);
        }
        due("it has all", x.gap(0, 0), NONE);
        due("member 5 sees from its first join", x.gap(5, 0), 1);
        due("a stranger sees nothing", x.gap(1, 0), NONE);
        due("the other device", x.gap(6, 0), 0);
        x.take(6, 0, 0);
        due("the other device", x.gap(6, 0), 1);
    }

    private static void askForTheLeast() {
        TalkHouse x = start("18 As many as n (1 .. 60) such, the least ones first, come: how many");
        due("an empty room", x.ask(0, 0, 60), 0);
        x.join(0, 0, 0);
        fillRow(x, 0, 60);
        x.take(0, 0, 1);
        due("one", x.ask(0, 0, 1), 1);
        due("it was the least", x.gap(0, 0), 2);
        due("two", x.ask(0, 0, 2), 2);
        due("they were the least", x.gap(0, 0), 4);
        x.take(0, 0, 59);
        due("55 are there", x.ask(0, 0, 54), 54);
        due("the last", x.gap(0, 0), 58);
        due("one is there", x.ask(0, 0, 60), 1);
        due("none is there", x.ask(0, 0, 1), 0);
        due("it has all", x.count(8), 60);
        due("a stranger", x.ask(1, 0, 60), 0);
        due("all at once", x.ask(6, 0, 60), 60);
    }

    private static void showsWhatItHas() {
        TalkHouse x = start("3 the TEXT of the latest EDIT ABOUT it that it has; without one its own");
        x.join(0, 0, 0);
        say(x, 0, 0, "own");
        post(x, 0, 0, EDIT, 1, "one");
        post(x, 0, 0, EDIT, 1, "two2");
        post(x, 0, 0, EDIT, 1, "three");
        x.take(0, 0, 1);
        dueShows(x, 0, 0, 1, "own");
        x.take(0, 0, 3);
        dueShows(x, 0, 0, 1, "two2");
        x.take(0, 0, 2);
        dueShows(x, 0, 0, 1, "two2");
        x.take(0, 0, 4);
        dueShows(x, 0, 0, 1, "three");
        x.take(6, 0, 4);
        due("an edit alone shows nothing", x.shows(6, 0, 1, -1), NO);
        x.take(6, 0, 1);
        dueShows(x, 6, 0, 1, "three");
        due("of an edit", x.shows(6, 0, 4, -1), NO);
    }

    private static void showsNone() {
        TalkHouse x = start("3 none, if it has a GONE ABOUT it, or it is ENDED");
        x.join(0, 0, 0);
        say(x, 0, 0, "a");
        say(x, 0, 0, "b");
        post(x, 0, 0, EDIT, 1, "e");
        post(x, 0, 0, GONE, 1, "");
        x.ask(0, 0, 4);
        dueShows(x, 0, 0, 1, "e");
        x.take(0, 0, 4);
        dueShows(x, 0, 0, 1, "");
        dueShows(x, 0, 0, 2, "b");
        x.take(6, 0, 4);
        due("a gone one alone shows nothing", x.shows(6, 0, 1, -1), NO);
        x.take(6, 0, 2);
        x.age(0, 1);
        dueShows(x, 0, 0, 2, "b");
        x.tick(1);
        dueShows(x, 0, 0, 2, "");
        dueShows(x, 6, 0, 2, "");
        due("ended or not, it has it not", x.shows(6, 0, 1, -1), NO);
    }

    private static void quotedOnes() {
        TalkHouse x = start("20 if the DEVICE has that, and SHOWS it as not GONE and not ENDED; else NONE");
        for (int room = 0; room < 3; room++) {
            x.join(room, 0, 0);
        }
        due("of the first room", say(x, 0, 0, ""), 1);
        due("of the last room", say(x, 0, 2, ""), 1);
        due("quote of 1", post(x, 0, 1, QUOTE, 1, ""), 1);
        due("quote of 201", post(x, 0, 1, QUOTE, 201, ""), 2);
        due("it has not the quote", x.quoted(0, 1, 1), NO);
        x.ask(0, 1, 60);
        due("it has not the first", x.quoted(0, 1, 1), NONE);
        due("it has not the last", x.quoted(0, 1, 2), NONE);
        x.ask(0, 0, 60);
        due("it has the first", x.quoted(0, 1, 1), 1);
        due("it has not the last", x.quoted(0, 1, 2), NONE);
        x.ask(0, 2, 60);
        due("it has the last", x.quoted(0, 1, 2), 201);
        post(x, 0, 2, GONE, 201, "");
        due("gone, but it has it not", x.quoted(0, 1, 2), 201);
        x.take(0, 2, 2);
        due("gone", x.quoted(0, 1, 2), NONE);
        x.age(1, 0);
        due("an ended quote of one that is not", x.quoted(0, 1, 1), 1);
        x.age(0, 0);
        due("ended", x.quoted(0, 1, 1), NONE);
        due("a join", x.quoted(0, 1, 0), NO);
        due("a word", x.quoted(0, 0, 1), NO);
    }

    private static void behindNoneAndAll() {
        TalkHouse x = start("21 How many DEVICES are BEHIND with a SAID one");
        for (int m = 0; m < 6; m++) {
            x.join(0, m, 0);
        }
        due("said", say(x, 0, 0, "w"), 6);
        due("none has it", x.behind(0, 6), 0);
        for (int d = 0; d < 8; d++) {
            x.take(d, 0, 6);
        }
        due("nothing about it", x.behind(0, 6), 0);
        due("edit", post(x, 0, 0, EDIT, 6, "e"), 7);
        due("all", x.behind(0, 6), 8);
        for (int d = 0; d < 8; d++) {
            x.take(d, 0, 7);
            due("one less", x.behind(0, 6), 7 - d);
        }
        due("of the edit", x.behind(0, 7), NO);
    }

    private static void behindWithAnEdit() {
        TalkHouse x = start("3 an EDIT ABOUT it that its MEMBER MAY SEE, and the DEVICE has not");
        x.join(0, 0, 0);
        x.join(0, 1, 0);
        say(x, 0, 0, "w");
        due("edit", post(x, 0, 0, EDIT, 2, "e"), 3);
        due("edit", post(x, 0, 0, EDIT, 2, "f"), 4);
        due("nobody has it", x.behind(0, 2), 0);
        x.take(1, 0, 2);
        due("behind with both", x.behind(0, 2), 1);
        x.take(1, 0, 4);
        due("behind with the earlier", x.behind(0, 2), 1);
        x.take(1, 0, 3);
        due("not behind", x.behind(0, 2), 0);
        x.leave(0, 1);
        due("edit", post(x, 0, 0, EDIT, 2, "g"), 6);
        due("one that its member may not see", x.behind(0, 2), 0);
        due("a pin", post(x, 0, 0, PIN, 2, ""), 7);
        due("a thread", post(x, 0, 0, THREAD, 2, ""), 8);
        x.join(0, 1, 1);
        due("with the past", x.behind(0, 2), 1);
        x.take(1, 0, 6);
        due("a pin and a thread are nothing to be behind with", x.behind(0, 2), 0);
    }

    private static void behindWithAGoneOne() {
        TalkHouse x = start("3 (GONE: any)");
        x.join(0, 0, 0);
        x.join(0, 1, 0);
        say(x, 0, 0, "w");
        x.take(1, 0, 2);
        x.take(7, 0, 2);
        x.leave(0, 1);
        due("gone", post(x, 0, 0, GONE, 2, ""), 4);
        due("its member may not see it", x.maySee(1, 0, 4), 0);
        due("behind all the same, who has it", x.behind(0, 2), 2);
        x.take(1, 0, 4);
        due("one less", x.behind(0, 2), 1);
        x.own(7, 1);
        due("who has nothing is not behind", x.behind(0, 2), 0);
        x.take(0, 0, 4);
        due("who has the gone one alone is not", x.behind(0, 2), 0);
    }

    // ---- marks

    private static void marksGoOn() {
        TalkHouse x = start("3 -1 at first: up to which PLACE it has read; it only goes on");
        for (int m = 0; m < 6; m++) {
            for (int room = 0; room < 3; room++) {
                due("at first", x.mark(m, room, -1), -1);
                due("an empty room has no place 0", x.mark(m, room, 0), BAD);
            }
        }
        x.join(1, 0, 0);
        fillRow(x, 1, 60);
        due("0", x.mark(2, 1, 0), 0);
        due("back to -1", x.mark(2, 1, -1), 0);
        due("58", x.mark(2, 1, 58), 58);
        due("back by one", x.mark(2, 1, 57), 58);
        due("the same", x.mark(2, 1, 58), 58);
        due("the last", x.mark(2, 1, 59), 59);
        due("above", x.mark(2, 1, 60), BAD);
        due("below", x.mark(2, 1, -2), BAD);
        due("back to 0", x.mark(2, 1, 0), 59);
        due("the members beside it", x.mark(1, 1, -1), -1);
        due("the members beside it", x.mark(3, 1, -1), -1);
        due("the rooms beside it", x.mark(2, 0, -1), -1);
        due("the rooms beside it", x.mark(2, 2, -1), -1);
    }

    private static void unreadBehindTheMark() {
        TalkHouse x = start("3 UNREAD: SAID ones behind it");
        x.join(0, 0, 0);
        x.join(0, 1, 0);
        for (int k = 0; k < 4; k++) {
            say(x, 0, 0, "");
        }
        due("all", x.unread(1, 0), 4);
        x.mark(1, 0, 1);
        due("none of them is read", x.unread(1, 0), 4);
        for (int k = 0; k < 4; k++) {
            x.mark(1, 0, 2 + k);
            due("read up to it", x.unread(1, 0), 3 - k);
        }
        x.mark(1, 0, -1);
        due("the mark does not go back", x.unread(1, 0), 0);
        say(x, 0, 0, "");
        due("what comes then", x.unread(1, 0), 1);
    }

    private static void unreadOfWhom() {
        TalkHouse x = start("3 by others, that the MEMBER MAY SEE, neither GONE nor ENDED");
        x.join(0, 0, 0);
        due("an empty row", x.unread(1, 0), 0);
        say(x, 0, 0, "ahead");
        x.join(0, 1, 0);
        due("not seen", x.unread(1, 0), 0);
        say(x, 0, 0, "w");
        due("by another", x.unread(1, 0), 1);
        due("by itself", x.unread(0, 0), 0);
        due("a quote by itself", post(x, 1, 0, QUOTE, 3, ""), 4);
        due("its own is none for it", x.unread(1, 0), 1);
        due("it is one for the other", x.unread(0, 0), 1);
        post(x, 0, 0, EDIT, 3, "");
        post(x, 0, 0, PIN, 3, "");
        due("edits and pins are no said ones", x.unread(1, 0), 1);
        post(x, 0, 0, THREAD, 3, "");
        due("a thread is", x.unread(1, 0), 2);
        x.leave(0, 1);
        post(x, 0, 0, GONE, 3, "");
        due("gone, though it may not see that", x.unread(1, 0), 1);
        x.age(0, 1);
        due("not so old", x.unread(1, 0), 1);
        x.tick(1);
        due("ended", x.unread(1, 0), 0);
        due("ended", x.unread(0, 0), 0);
    }

    private static void unreadAtMost() {
        TalkHouse x = start("24 How many are UNREAD, of a full row");
        x.join(2, 0, 0);
        x.join(2, 1, 0);
        for (int k = 0; k < 58; k++) {
            if (k % 12 == 0) {
                x.own(0, 0);
            }
            say(x, 0, 2, "");
        }
        due("full", say(x, 6, 2, ""), -14);
        due("all of them", x.unread(1, 2), 58);
        x.mark(1, 2, 58);
        due("the last", x.unread(1, 2), 1);
        x.mark(1, 2, 59);
        due("none", x.unread(1, 2), 0);
    }

    // ---- search

    private static void foldedLetters() {
        part("4 FOLDED: bytes A .. Z become a .. z");
        for (int b = 32; b <= 126; b++) {
            TalkHouse x = new TalkHouse();
            x.join(0, 0, 0);
            x.feed(b, 1);
            x.write(0, 0, WORD, NONE);
            x.send(0, 0);
            for (int wanted = 32; wanted <= 126; wanted++) {
                x.feed(wanted, 1);
                boolean same = Character.toLowerCase(b) == Character.toLowerCase(wanted);
                due((char) wanted + " in " + (char) b, x.find(0, 0, 0), same ? 1 : NONE);
                x.blank();
            }
            due("its text is as it was", x.text(0, 0, 1, 0), b);
        }
    }

    private static void hasAWantedOne() {
        part("4 A TEXT HAS a wanted one (1 byte at least), if that stands somewhere in it");
        String[][] has = {
            {"abc", "a"}, {"abc", "b"}, {"abc", "c"}, {"abc", "ab"}, {"abc", "bc"}, {"abc", "abc"}, {"aaab", "aab"},
            {"ababac", "abac"}, {LONGEST, LONGEST}, {LONGEST, "x"}, {LONGEST, LONGEST.substring(1)}, {"A b", "a B"}};
        String[][] hasNot = {
            {"", "a"}, {"abc", "abcd"}, {"abc", "ac"}, {"abc", "ba"}, {"abc", "cc"}, {"abc", " a"}, {"bc", "abc"},
            {LONGEST.substring(1), LONGEST}, {LONGEST, "xa"}, {"ab", "abab"}, {"a b", "ab"}};
        for (int k = 0; k < has.length + hasNot.length; k++) {
            boolean isHad = k < has.length;
            String[] pair = isHad ? has[k] : hasNot[k - has.length];
            TalkHouse x = new TalkHouse();
            x.join(0, 0, 0);
            say(x, 0, 0, pair[0]);
            due("the tape is empty", x.find(0, 0, 0), NO);
            type(x, pair[1]);
            due("'" + pair[1] + "' in '" + pair[0] + "'", x.find(0, 0, 0), isHad ? 1 : NONE);
            due("no second one", x.find(0, 0, 1), NONE);
            due("THE TAPE (which stays)", x.count(4), pair[1].length());
        }
    }

    private static void foundForAMember() {
        TalkHouse x = start("4 FOUND for a MEMBER: that it MAY SEE, whose TEXT for that MEMBER HAS it, by PLACES");
        x.join(0, 0, 0);
        say(x, 0, 0, "ahead");
        x.join(0, 1, 0);
        say(x, 0, 0, "Ahead");
        say(x, 0, 0, "none");
        x.leave(0, 1);
        post(x, 0, 0, EDIT, 3, "other");
        post(x, 0, 0, EDIT, 4, "AHEAD");
        post(x, 0, 0, THREAD, 4, "(ahead)");
        type(x, "ahead");
        long[] forNull = {1, 4, 8, NONE}, forOne = {3, NONE, NONE, NONE};
        for (int i = 0; i < 4; i++) {
            due("for 0, " + i, x.find(0, 0, i), forNull[i]);
            due("for 1, " + i, x.find(1, 0, i), forOne[i]);
            due("for 2, " + i, x.find(2, 0, i), NONE);
            due("another room, " + i, x.find(0, 1, i), NONE);
        }
        x.blank();
        post(x, 0, 0, GONE, 1, "");
        type(x, "ahead");
        due("a gone one is passed over", x.find(0, 0, 0), 4);
        x.age(0, 0);
        due("ended ones are not found", x.find(0, 0, 0), NONE);
        due("i below 0 stands ahead", x.find(0, 0, -1), BAD);
    }

    private static void foundInAFullRow() {
        TalkHouse x = start("25 NONE: there are not so many, in a full row");
        x.join(0, 0, 0);
        for (int k = 1; k < 60; k++) {
            if (k % 12 == 1) {
                x.own(0, 0);
            }
            say(x, 0, 0, "w");
        }
        type(x, "W");
        for (int i = 0; i < 59; i++) {
            due("found", x.find(0, 0, i), 1 + i);
        }
        due("one more", x.find(0, 0, 59), NONE);
        due("and one more", x.find(0, 0, 60), NONE);
    }

    private static void threadsUnder() {
        TalkHouse x = start("26 The i-th THREAD UNDER a SAID one, that a MEMBER MAY SEE, neither GONE nor ENDED");
        x.join(0, 0, 0);
        x.join(0, 1, 0);
        say(x, 0, 0, "root");
        due("no thread", x.thread(0, 0, 2, 0), NONE);
        x.tick(1);
        for (int k = 0; k < 4; k++) {
            due("thread", post(x, 0, 0, THREAD, 2, ""), 3 + k);
        }
        x.leave(0, 1);
        due("thread", post(x, 0, 0, THREAD, 2, ""), 8);
        long[] under = {3, 4, 5, 6, 8, NONE};
        for (int i = 0; i < under.length; i++) {
            due("for 0, " + i, x.thread(0, 0, 2, i), under[i]);
            due("for 1, " + i, x.thread(1, 0, 2, i), i < 4 ? under[i] : NONE);
            due("for 2, " + i, x.thread(2, 0, 2, i), NO);
        }
        post(x, 0, 0, GONE, 3, "");
        due("a gone one is passed over", x.thread(0, 0, 2, 0), 4);
        post(x, 0, 0, GONE, 2, "");
        due("the root may be gone", x.thread(0, 0, 2, 0), 4);
        x.tick(1);
        x.age(0, 2);
        due("the root may be ended", x.entry(0, 2, 5), 1);
        due("its threads are not", x.thread(0, 0, 2, 0), 4);
        x.age(0, 1);
        due("ended", x.thread(0, 0, 2, 0), NONE);
    }

    // ---- law

    private static void heldFromTo() {
        part("4 HELD are SAID ones that came at a TIME from one told to another one");
        for (int from = 0; from <= 6; from++) {
            for (int to = from; to <= 6; to++) {
                TalkHouse x = new TalkHouse();
                x.join(0, 0, 0);
                for (int time = 0; time <= 5; time++) {
                    say(x, 0, 0, "");
                    x.tick(1);
                }
                due("how many", x.hold(0, from, to), Math.max(0, Math.min(to, 5) - from + 1));
                for (int time = 0; time <= 5; time++) {
                    due("at " + time, x.entry(0, 1 + time, 7), time >= from && time <= to ? 1 : 0);
                }
                due("a join is none", x.entry(0, 0, 7), 0);
                due("none", x.hold(0, -1, -1), 0);
                due("none at the last time", x.entry(0, 6, 7), 0);
                due("none at the first time", x.entry(0, 1, 7), 0);
            }
        }
    }

    private static void holdOfOneRoom() {
        TalkHouse x = start("4 as long as the HOLD stands; one for each ROOM");
        for (int room = 0; room < 3; room++) {
            x.join(room, 0, 0);
            say(x, 0, room, "");
            due("none at first", x.entry(room, 1, 7), 0);
        }
        due("hold", x.hold(1, 0, 1000000), 1);
        due("the room below", x.entry(0, 1, 7), 0);
        due("the room above", x.entry(2, 1, 7), 0);
        x.tick(1);
        due("hold", x.hold(0, 0, 0), 1);
        due("the other hold stands", x.entry(1, 1, 7), 1);
        due("what comes then is held as well", say(x, 0, 1, ""), 2);
        due("what comes then is held as well", x.entry(1, 2, 7), 1);
        due("behind its time", say(x, 0, 0, ""), 2);
        due("behind its time", x.entry(0, 2, 7), 0);
        due("a new one takes the place of the old", x.hold(1, 1, 1), 1);
        due("no more held", x.entry(1, 1, 7), 0);
        due("held", x.entry(1, 2, 7), 1);
        due("an ended one too", x.age(1, 0), 1);
        due("an ended one too", x.hold(1, 0, 1), 2);
    }

    private static void endsAtItsAge() {
        part("4 ENDED as soon as it was so old (TIME less its TIME is not below AGE)");
        for (int a = 1; a <= 4; a++) {
            TalkHouse x = new TalkHouse();
            x.tick(7);
            x.join(0, 0, 0);
            say(x, 0, 0, "w");
            due("age", x.age(0, a), 0);
            for (int old = 0; old <= 5; old++) {
                due(old + " old", x.entry(0, 1, 5), old >= a ? 1 : 0);
                due("all", x.count(3), old >= a ? 1 : 0);
                x.tick(1);
            }
        }
        for (int old = 0; old <= 3; old++) {
            TalkHouse x = new TalkHouse();
            x.join(0, 0, 0);
            say(x, 0, 0, "w");
            x.tick(old);
            due("age above", x.age(0, old + 1), 0);
            due("as old as that", x.age(0, old), 1);
        }
    }

    private static void endsAtTheLeastAndTheGreatestAge() {
        TalkHouse x = start("4 a ROOM has an AGE (0 .. 1000; none at first)");
        x.join(0, 0, 0);
        say(x, 0, 0, "w");
        x.tick(1000);
        x.tick(1000);
        due("none at first", x.count(3), 0);
        due("none", x.age(0, NONE), 0);
        due("none", x.tick(0), 2000);
        due("none", x.count(3), 0);
        say(x, 0, 0, "v");
        due("the greatest", x.age(0, 1000), 1);
        x.tick(999);
        due("999 old", x.entry(0, 2, 5), 0);
        x.tick(1);
        due("1000 old", x.entry(0, 2, 5), 1);
        due("the least", x.age(0, 0), 2);
        say(x, 0, 0, "u");
        due("not as it comes", x.entry(0, 3, 5), 0);
        due("it can be read", x.text(0, 0, 3, 0), 'u');
        due("behind a tick of 0", x.tick(0), 3000);
        due("behind a tick of 0", x.entry(0, 3, 5), 1);
    }

    private static void endsBehindWhichCalls() {
        TalkHouse x = start("4 behind a tick(), an age() or a hold() that is not refused");
        x.join(0, 0, 0);
        x.age(0, 0);
        say(x, 0, 0, "w");
        due("tick", x.tick(-1), BAD);
        due("tick", x.tick(1001), BAD);
        due("age", x.age(0, -1), BAD);
        due("age", x.age(0, 1001), BAD);
        due("hold", x.hold(0, 1, 0), BAD);
        due("hold", x.hold(0, -1, 0), BAD);
        due("hold", x.hold(0, 0, 1000001), BAD);
        x.join(0, 1, 1);
        x.leave(0, 1);
        x.mark(0, 0, 0);
        x.ask(0, 0, 60);
        due("refused ones and others end nothing", x.entry(0, 1, 5), 0);
        due("a hold that is not refused", x.hold(0, 5, 6), 0);
        due("ends it", x.entry(0, 1, 5), 1);
        say(x, 0, 0, "v");
        due("an age that is not refused", x.age(0, 0), 2);
        say(x, 0, 0, "u");
        due("not yet", x.entry(0, 5, 5), 0);
        due("no hold", x.hold(0, -1, -1), 0);
        due("ends it", x.entry(0, 5, 5), 1);
    }

    private static void endsOfOneRoom() {
        TalkHouse x = start("4 tick() (of all ROOMS), an age() or a hold() (of that ROOM)");
        for (int room = 0; room < 3; room++) {
            x.join(room, 0, 0);
            x.age(room, 0);
            say(x, 0, room, "w");
        }
        due("age of that room, how many of it", x.age(1, 0), 1);
        due("age of that room", x.count(3), 1);
        due("hold of that room", x.hold(2, 9, 9), 0);
        due("hold of that room", x.count(3), 2);
        due("not of the first", x.entry(0, 1, 5), 0);
        x.tick(0);
        due("tick of all rooms", x.count(3), 3);
        for (int room = 0; room < 3; room++) {
            say(x, 0, room, "v");
        }
        x.age(1, NONE);
        x.tick(0);
        due("each room has its own age", x.entry(0, 2, 5), 1);
        due("this one has none", x.entry(1, 2, 5), 0);
        due("each room has its own age", x.entry(2, 2, 5), 1);
    }

    private static void heldDoesNotEnd() {
        TalkHouse x = start("4 while it is not HELD");
        x.join(0, 0, 0);
        for (int time = 0; time <= 4; time++) {
            say(x, 0, 0, "w");
            x.tick(1);
        }
        due("held", x.hold(0, 1, 3), 3);
        due("the others end", x.age(0, 0), 2);
        x.tick(1000);
        for (int time = 0; time <= 4; time++) {
            due("at " + time, x.entry(0, 1 + time, 5), time >= 1 && time <= 3 ? 0 : 1);
        }
        due("a smaller hold", x.hold(0, 2, 2), 1);
        due("lets go of two", x.count(3), 4);
        due("not of this", x.text(0, 0, 3, 0), 'w');
        due("none", x.hold(0, -1, -1), 0);
        due("lets go of the last", x.count(3), 5);
    }

    private static void endedStaysSo() {
        TalkHouse x = start("4 it stays so");
        x.join(0, 0, 0);
        say(x, 0, 0, "w");
        x.tick(1);
        due("ended", x.age(0, 1), 1);
        due("with a greater age", x.age(0, 1000), 1);
        due("with none", x.age(0, NONE), 1);
        due("when held", x.hold(0, 0, 1000000), 1);
        x.tick(1);
        due("then", x.entry(0, 1, 5), 1);
        due("held, and ended", x.entry(0, 1, 7), 1);
        due("no text", x.text(0, 0, 1, -1), 0);
        due("nothing kept", x.kept(0, 1, -1), 0);
        due("its own length", x.entry(0, 1, 8), 1);
    }

    private static void onlySaidOnesEnd() {
        TalkHouse x = start("4 a SAID one is ENDED; of others than SAID ones 0");
        x.join(0, 0, 0);
        say(x, 0, 0, "w");
        int[] kinds = {THREAD, QUOTE, EDIT, PIN, GONE};
        for (int kind : kinds) {
            post(x, 0, 0, kind, 1, "x");
        }
        x.leave(0, 0);
        due("hold, how many", x.hold(0, 0, 0), 3);
        due("held, none ends", x.age(0, 0), 0);
        for (int place = 0; place < 8; place++) {
            due("held " + place, x.entry(0, place, 7), place >= 1 && place <= 3 ? 1 : 0);
        }
        x.hold(0, -1, -1);
        due("how many", x.age(0, 0), 3);
        for (int place = 0; place < 8; place++) {
            due("ended " + place, x.entry(0, place, 5), place >= 1 && place <= 3 ? 1 : 0);
            due("gone " + place, x.entry(0, place, 4), place == 1 ? 1 : 0);
            due("pinned " + place, x.entry(0, place, 6), place == 1 ? 1 : 0);
        }
    }

    // ---- sums

    private static long sumOf(long... parts) {
        BigInteger sum = BigInteger.valueOf(7);
        for (long part : parts) {
            sum = sum.multiply(BigInteger.valueOf(31)).add(BigInteger.valueOf(part));
        }
        return sum.longValue();
    }

    private static void sumByPlaces() {
        TalkHouse x = start("4 beginning with 7, for each ENTRY that it has, by PLACES");
        due("an empty room", x.sum(0, 0), 7);
        x.join(0, 0, 0);
        due("it has nothing", x.sum(0, 0), 7);
        fillRow(x, 0, 60);
        x.take(0, 0, 59);
        due("the last", x.sum(0, 0), sumOf(59, JOIN));
        x.take(0, 0, 0);
        due("and the first, ahead of it", x.sum(0, 0), sumOf(0, JOIN, 59, JOIN));
        x.take(0, 0, 2);
        due("and one between", x.sum(0, 0), sumOf(0, JOIN, 2, LEAVE, 59, JOIN));
        due("the other device", x.sum(6, 0), 7);
        due("the other room", x.sum(0, 1), 7);
        due("no such device", x.sum(8, 0), 0);
        due("no such room", x.sum(0, 3), 0);
    }

    private static void sumOfWhatItShows() {
        TalkHouse x = start("4 and, of a SAID one, for each byte of what it SHOWS");
        x.join(0, 0, 0);
        say(x, 0, 0, "ab");
        post(x, 0, 0, EDIT, 1, "C");
        post(x, 0, 0, THREAD, 1, "t");
        post(x, 0, 0, GONE, 1, "");
        x.take(0, 0, 1);
        due("its own", x.sum(0, 0), sumOf(1, WORD, 'a', 'b'));
        x.take(0, 0, 2);
        due("the edit's, of the edit itself none", x.sum(0, 0), sumOf(1, WORD, 'C', 2, EDIT));
        x.take(0, 0, 3);
        due("a thread is a said one", x.sum(0, 0), sumOf(1, WORD, 'C', 2, EDIT, 3, THREAD, 't'));
        x.take(0, 0, 4);
        due("none of a gone one", x.sum(0, 0), sumOf(1, WORD, 2, EDIT, 3, THREAD, 't', 4, GONE));
        x.age(0, 0);
        due("none of an ended one", x.sum(0, 0), sumOf(1, WORD, 2, EDIT, 3, THREAD, 4, GONE));
    }

    private static void sumWraps() {
        TalkHouse x = start("4 all as longs that wrap");
        x.join(0, 0, 0);
        x.take(0, 0, 0);
        long[] parts = new long[2 + 11 * 26];
        parts[1] = JOIN;
        int size = 2;
        boolean below = false;
        for (int place = 1; place <= 11; place++) {
            say(x, 6, 0, "~~~~~~~~~~~~~~~~~~~~~~~~");
            x.take(0, 0, place);
            parts[size] = place;
            for (int k = 2; k < 26; k++) {
                parts[size + k] = '~';
            }
            size += 26;
            long want = sumOf(Arrays.copyOf(parts, size));
            below |= want < 0;
            due("of " + place, x.sum(0, 0), want);
        }
        due("one of these sums is below 0", below ? 1 : 0, 1);
    }

    // ---- counts

    private static void fullHouse() {
        TalkHouse x = start("29 How many, of all that can be");
        for (int room = 0; room < 3; room++) {
            x.join(room, 0, 0);
            x.join(room, 1, 0);
            x.leave(room, 1);
            x.join(room, 1, 1);
            fillRow(x, room, 60);
        }
        for (int d = 0; d < 8; d++) {
            for (int k = 0; k < 12; k++) {
                x.write(d, 0, WORD, NONE);
            }
            x.own(d, d);
        }
        due("device 6 and 7 stay with 0 and 1", x.own(6, 6), BAD);
        for (int d = 0; d < 8; d++) {
            for (int room = 0; room < 3; room++) {
                due("ask", x.ask(d, room, 60), d % 6 < 2 ? 60 : d == 5 ? 56 : 0);
            }
        }
        type(x, LONGEST);
        long[] want = {180, 0, 0, 0, 24, 0, 24, 24, 4 * 180 + 3 * 56};
        for (int what = 0; what <= 8; what++) {
            due("count " + what, x.count(what), want[what]);
        }
    }
}
