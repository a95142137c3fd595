import java.util.Arrays;

/** A talk house, as ../shared/DOC.md tells it: rooms, letters, copies, marks, search and law. */
public final class TalkHouse {
    public static final int BAD = -1000000001, NO = -1000000002, FULL = -1000000003, NONE = -1000000005;

    private static final int MEMBERS = 6, ROOMS = 3, DEVICES = 8;
    private static final int ROW_LIMIT = 60, OUT_LIMIT = 12, TAPE_LIMIT = 24, FEED_LIMIT = 8;
    private static final int TICK_LIMIT = 1000, AGE_LIMIT = 1000, TIME_LIMIT = 1000000;
    private static final int FIRST_SIGN = 32, LAST_SIGN = 126;

    private static final int WORD = 0, EDIT = 1, GONE = 2, THREAD = 3, PINNED = 4, QUOTED = 5;
    private static final int JOIN = 6, LEAVE = 7, ABOUT = 8;

    /** A code names an entry of any room by one number: this times the room, and the place. */
    private static final int ROOM_STEP = 100;

    private static final int TAKEN = 0, NOT_IN = -11, NOT_OPEN = -12, NOT_ITS_OWN = -13, NO_PLACE_LEFT = -14;

    private static final byte[] NO_TEXT = {};

    private final Row[] rows;
    private final Device[] devices;
    private final byte[] tape;
    private int tapeLength;
    private int time;

    public TalkHouse() {
        rows = new Row[ROOMS];
        for (int room = 0; room < ROOMS; room++) {
            rows[room] = new Row(room);
        }
        devices = new Device[DEVICES];
        for (int device = 0; device < DEVICES; device++) {
            devices[device] = new Device(device % MEMBERS);
        }
        tape = new byte[TAPE_LIMIT];
        tapeLength = 0;
        time = 0;
    }

    // ---- members, devices, time

    public int own(int device, int member) {
        Device d = deviceAt(device);
        if (d == null || !isMember(member)) {
            return BAD;
        }
        int before = d.member;
        d.passTo(member);
        return before;
    }

    public int join(int room, int member, int past) {
        Row row = rowAt(room);
        if (row == null || !isMember(member) || (past != 0 && past != 1)) {
            return BAD;
        }
        if (row.hasInside(member)) {
            return NO;
        }
        if (row.isFull()) {
            return FULL;
        }
        return row.letIn(member, past == 1, time);
    }

    public int leave(int room, int member) {
        Row row = rowAt(room);
        if (row == null || !isMember(member)) {
            return BAD;
        }
        if (!row.hasInside(member)) {
            return NO;
        }
        if (row.isFull()) {
            return FULL;
        }
        return row.letGo(member, time);
    }

    public int tick(int n) {
        if (n < 0 || n > TICK_LIMIT || n > TIME_LIMIT - time) {
            return BAD;
        }
        time += n;
        for (int room = 0; room < ROOMS; room++) {
            rows[room].endOldOnes(time);
        }
        return time;
    }

    // ---- letters

    public int feed(long v, int n) {
        if (n < 1 || n > FEED_LIMIT) {
            return BAD;
        }
        for (int k = 0; k < n; k++) {
            if (!isSign(byteOf(v, k))) {
                return BAD;
            }
        }
        if (n > TAPE_LIMIT - tapeLength) {
            return FULL;
        }
        for (int k = n - 1; k >= 0; k--) {
            tape[tapeLength] = (byte) byteOf(v, k);
            tapeLength++;
        }
        return tapeLength;
    }

    public int blank() {
        int had = tapeLength;
        tapeLength = 0;
        return had;
    }

    public int write(int device, int room, int kind, int of) {
        int length = tapeLength;
        // The tape is taken whatever is answered, so it is emptied ahead of every test.
        tapeLength = 0;
        Device d = deviceAt(device);
        Row row = rowAt(room);
        if (d == null || row == null || kind < WORD || kind > QUOTED || !fitsKind(of, kind, room)) {
            return BAD;
        }
        byte[] words = kind == GONE || kind == PINNED ? NO_TEXT : Arrays.copyOf(tape, length);
        return d.putOut(new Letter(row, kind, of, words));
    }

    public int send(int device, int number) {
        Device d = deviceAt(device);
        Letter letter = letterAt(device, number);
        if (d == null || letter == null) {
            return BAD;
        }
        if (letter.place == NONE) {
            int verdict = keepersVerdict(letter, d.member);
            if (verdict != TAKEN) {
                return verdict;
            }
            letter.place = settle(letter, d.member);
        }
        return letter.place;
    }

    public int out(int device, int number, int what) {
        Letter letter = letterAt(device, number);
        if (letter == null) {
            return BAD;
        }
        switch (what) {
            case 0: return letter.row.room;
            case 1: return letter.kind;
            case 2: return letter.of;
            case 3: return letter.words.length;
            case 4: return letter.place;
            default: return BAD;
        }
    }

    // ---- the rows

    public int entry(int room, int place, int what) {
        Entry e = entryAt(room, place);
        if (e == null) {
            return BAD;
        }
        switch (what) {
            case 0: return e.kind;
            case 1: return e.time;
            case 2: return e.member;
            case 3: return e.of;
            case 4: return oneIf(e.gone != null);
            case 5: return oneIf(e.ended);
            case 6: return oneIf(e.pinned);
            case 7: return oneIf(rows[room].holds(e));
            case 8: return e.words.length;
            default: return BAD;
        }
    }

    public int isOf(int room, int place, int kind) {
        Entry e = entryAt(room, place);
        if (e == null || kind < WORD || kind > ABOUT) {
            return BAD;
        }
        if (kind == WORD) {
            return oneIf(e.isSaid());
        }
        if (kind == ABOUT) {
            return oneIf(e.isAbout());
        }
        return oneIf(e.kind == kind);
    }

    public int maySee(int member, int room, int place) {
        Entry e = entryAt(room, place);
        if (e == null || !isMember(member)) {
            return BAD;
        }
        return oneIf(e.isOpenTo(member));
    }

    public int text(int member, int room, int place, int i) {
        Entry e = entryAt(room, place);
        if (e == null || !isMember(member) || i < -1) {
            return BAD;
        }
        if (!e.isSaid() || !e.isOpenTo(member)) {
            return NO;
        }
        return signOrLength(e.wordsFor(member), i);
    }

    public int kept(int room, int place, int i) {
        Entry e = entryAt(room, place);
        if (e == null || i < -1) {
            return BAD;
        }
        if (!e.isSaid()) {
            return NO;
        }
        return signOrLength(e.keptWords(), i);
    }

    // ---- copies

    public int take(int device, int room, int place) {
        Device d = deviceAt(device);
        Entry e = entryAt(room, place);
        if (d == null || e == null) {
            return BAD;
        }
        if (!e.isOpenTo(d.member) && !endsWhatItHas(d, e)) {
            return NO;
        }
        if (d.has(e)) {
            return 0;
        }
        d.add(e);
        return 1;
    }

    public int gap(int device, int room) {
        Device d = deviceAt(device);
        Row row = rowAt(room);
        if (d == null || row == null) {
            return BAD;
        }
        for (int place = 0; place < row.size; place++) {
            if (d.lacks(row.entries[place])) {
                return place;
            }
        }
        return NONE;
    }

    public int ask(int device, int room, int n) {
        Device d = deviceAt(device);
        Row row = rowAt(room);
        if (d == null || row == null || n < 1 || n > ROW_LIMIT) {
            return BAD;
        }
        int come = 0;
        for (int place = 0; place < row.size && come < n; place++) {
            Entry e = row.entries[place];
            if (d.lacks(e)) {
                d.add(e);
                come++;
            }
        }
        return come;
    }

    public int shows(int device, int room, int place, int i) {
        Device d = deviceAt(device);
        Entry e = entryAt(room, place);
        if (d == null || e == null || i < -1) {
            return BAD;
        }
        if (!e.isSaid() || !d.has(e)) {
            return NO;
        }
        return signOrLength(d.wordsOf(e), i);
    }

    public int quoted(int device, int room, int place) {
        Device d = deviceAt(device);
        Entry e = entryAt(room, place);
        if (d == null || e == null) {
            return BAD;
        }
        if (e.kind != QUOTED || !d.has(e)) {
            return NO;
        }
        Entry source = entryOf(e.of);
        return source != null && d.has(source) && !d.hasEndOf(source) ? e.of : NONE;
    }

    public int behind(int room, int place) {
        Entry e = entryAt(room, place);
        if (e == null) {
            return BAD;
        }
        if (!e.isSaid()) {
            return NO;
        }
        int late = 0;
        for (int device = 0; device < DEVICES; device++) {
            if (devices[device].isBehindWith(e)) {
                late++;
            }
        }
        return late;
    }

    public long sum(int device, int room) {
        Device d = deviceAt(device);
        Row row = rowAt(room);
        if (d == null || row == null) {
            return 0L;
        }
        long total = 7L;
        for (int place = 0; place < row.size; place++) {
            Entry e = row.entries[place];
            if (d.has(e)) {
                total = sumWith(total, d, e);
            }
        }
        return total;
    }

    // ---- marks, search

    public int mark(int member, int room, int place) {
        Row row = rowAt(room);
        if (row == null || !isMember(member) || place < -1 || place >= row.size) {
            return BAD;
        }
        row.marks[member] = Math.max(row.marks[member], place);
        return row.marks[member];
    }

    public int unread(int member, int room) {
        Row row = rowAt(room);
        if (row == null || !isMember(member)) {
            return BAD;
        }
        int waiting = 0;
        for (int place = row.marks[member] + 1; place < row.size; place++) {
            Entry e = row.entries[place];
            if (e.isSaid() && e.member != member && e.isLiveFor(member)) {
                waiting++;
            }
        }
        return waiting;
    }

    public int find(int member, int room, int i) {
        Row row = rowAt(room);
        if (row == null || !isMember(member) || i < 0) {
            return BAD;
        }
        if (tapeLength == 0) {
            return NO;
        }
        int found = 0;
        for (int place = 0; place < row.size; place++) {
            Entry e = row.entries[place];
            if (e.isSaid() && e.isOpenTo(member) && hasTape(e.wordsFor(member))) {
                if (found == i) {
                    return place;
                }
                found++;
            }
        }
        return NONE;
    }

    public int thread(int member, int room, int place, int i) {
        Row row = rowAt(room);
        Entry root = entryAt(room, place);
        if (row == null || root == null || !isMember(member) || i < 0) {
            return BAD;
        }
        if (!root.isSaid() || !root.isOpenTo(member)) {
            return NO;
        }
        int met = 0;
        for (int later = place + 1; later < row.size; later++) {
            Entry e = row.entries[later];
            if (e.kind == THREAD && e.of == root.code && e.isLiveFor(member)) {
                if (met == i) {
                    return later;
                }
                met++;
            }
        }
        return NONE;
    }

    // ---- law

    public int hold(int room, int from, int to) {
        Row row = rowAt(room);
        boolean none = from == -1 && to == -1;
        if (row == null || (!none && (from < 0 || from > to || to > TIME_LIMIT))) {
            return BAD;
        }
        row.holdFrom = from;
        row.holdTo = to;
        row.endOldOnes(time);
        return row.countHeld();
    }

    public int age(int room, int a) {
        Row row = rowAt(room);
        if (row == null || (a != NONE && (a < 0 || a > AGE_LIMIT))) {
            return BAD;
        }
        row.endAge = a;
        row.endOldOnes(time);
        return row.countEnded();
    }

    public int count(int what) {
        switch (what) {
            case 0:
            case 1:
            case 2:
            case 3: return countInRows(what);
            case 4: return tapeLength;
            case 5: return time;
            case 6:
            case 7:
            case 8: return countInDevices(what);
            default: return BAD;
        }
    }

    // ---- what the calls share

    private static boolean isMember(int member) {
        return member >= 0 && member < MEMBERS;
    }

    private static int oneIf(boolean holds) {
        return holds ? 1 : 0;
    }

    private Device deviceAt(int device) {
        return device >= 0 && device < DEVICES ? devices[device] : null;
    }

    private Row rowAt(int room) {
        return room >= 0 && room < ROOMS ? rows[room] : null;
    }

    private Entry entryAt(int room, int place) {
        Row row = rowAt(room);
        return row != null && place >= 0 && place < row.size ? row.entries[place] : null;
    }

    private Entry entryOf(int code) {
        return code >= 0 ? entryAt(code / ROOM_STEP, code % ROOM_STEP) : null;
    }

    private Letter letterAt(int device, int number) {
        Device d = deviceAt(device);
        return d != null && number >= 0 && number < d.outSize ? d.letters[number] : null;
    }

    private static int byteOf(long v, int k) {
        return (int) (v >>> (8 * k)) & 255;
    }

    private static boolean isSign(int b) {
        return b >= FIRST_SIGN && b <= LAST_SIGN;
    }

    /** Whether a letter of this kind, into this room, may name this code. */
    private static boolean fitsKind(int of, int kind, int room) {
        if (kind == WORD) {
            return of == NONE;
        }
        if (of < 0 || of / ROOM_STEP >= ROOMS || of % ROOM_STEP >= ROW_LIMIT) {
            return false;
        }
        return kind == QUOTED || of / ROOM_STEP == room;
    }

    /** TAKEN, or the first of the keeper's conditions that the letter does not meet. */
    private int keepersVerdict(Letter letter, int member) {
        if (!letter.row.hasInside(member)) {
            return NOT_IN;
        }
        if (letter.kind != WORD) {
            Entry said = entryOf(letter.of);
            if (said == null || !said.isSaid() || !said.isOpenTo(member) || said.ended) {
                return NOT_OPEN;
            }
            boolean changes = letter.kind == EDIT || letter.kind == GONE;
            if (changes && (said.member != member || said.gone != null)) {
                return NOT_ITS_OWN;
            }
        }
        return letter.row.isFull() ? NO_PLACE_LEFT : TAKEN;
    }

    private int settle(Letter letter, int member) {
        Entry e = new Entry(letter.row.nextCode(), letter.kind, time, member, letter.of, letter.words);
        letter.row.append(e);
        Entry said = entryOf(letter.of);
        if (said != null) {
            said.takeNoteOf(e);
        }
        return e.place;
    }

    private static int signOrLength(byte[] words, int i) {
        if (i == -1) {
            return words.length;
        }
        return i >= 0 && i < words.length ? words[i] : NONE;
    }

    /** A gone one comes to each device that has what it is about, seen or not. */
    private boolean endsWhatItHas(Device d, Entry e) {
        Entry said = entryOf(e.of);
        return e.kind == GONE && said != null && d.has(said);
    }

    private static long sumWith(long sumBefore, Device d, Entry e) {
        long total = sumBefore * 31L + e.place;
        total = total * 31L + e.kind;
        if (e.isSaid()) {
            byte[] words = d.wordsOf(e);
            for (int k = 0; k < words.length; k++) {
                total = total * 31L + words[k];
            }
        }
        return total;
    }

    private boolean hasTape(byte[] words) {
        for (int start = 0; start + tapeLength <= words.length; start++) {
            if (tapeStandsAt(words, start)) {
                return true;
            }
        }
        return false;
    }

    private boolean tapeStandsAt(byte[] words, int start) {
        for (int k = 0; k < tapeLength; k++) {
            if (start + k >= words.length || folded(words[start + k]) != folded(tape[k])) {
                return false;
            }
        }
        return true;
    }

    private static int folded(byte b) {
        return b >= 'A' && b <= 'Z' ? b - 'A' + 'a' : b;
    }

    private int countInRows(int what) {
        int total = 0;
        for (int room = 0; room < ROOMS; room++) {
            Row row = rows[room];
            switch (what) {
                case 0: total += row.size; break;
                case 1: total += row.countSaid(); break;
                case 2: total += row.countGone(); break;
                case 3: total += row.countEnded(); break;
                default: break;
            }
        }
        return total;
    }

    private int countInDevices(int what) {
        int total = 0;
        for (int device = 0; device < DEVICES; device++) {
            Device d = devices[device];
            switch (what) {
                case 6: total += d.outSize; break;
                case 7: total += d.countNotSettled(); break;
                case 8: total += d.countCopies(); break;
                default: break;
            }
        }
        return total;
    }

    /** What a device wrote; it stays in its out when it has been settled. */
    private static final class Letter {
        final Row row;
        final int kind;
        final int of;
        final byte[] words;
        int place;

        Letter(Row row, int kind, int of, byte[] words) {
            this.row = row;
            this.kind = kind;
            this.of = of;
            this.words = words;
            this.place = NONE;
        }
    }

    private static final class Entry {
        final int code;
        final int room;
        final int place;
        final int kind;
        final int time;
        final int member;
        final int of;
        final byte[] words;
        /** A bit for each member that may see it; a later join with the past adds one, none is ever lost. */
        int seers;
        /** The edits about a said one hang behind one another, the latest first. */
        Entry latestEdit;
        Entry editBefore;
        Entry gone;
        boolean pinned;
        boolean ended;

        Entry(int code, int kind, int time, int member, int of, byte[] words) {
            this.code = code;
            this.room = code / ROOM_STEP;
            this.place = code % ROOM_STEP;
            this.kind = kind;
            this.time = time;
            this.member = member;
            this.of = of;
            this.words = words;
        }

        boolean isSaid() {
            return kind == WORD || kind == THREAD || kind == QUOTED;
        }

        boolean isAbout() {
            return kind == EDIT || kind == GONE || kind == PINNED;
        }

        boolean isOpenTo(int member) {
            return (seers >> member & 1) == 1;
        }

        boolean isLiveFor(int member) {
            return isOpenTo(member) && gone == null && !ended;
        }

        /** The keeper hands each new entry to the said one that it names. */
        void takeNoteOf(Entry e) {
            if (e.kind == EDIT) {
                e.editBefore = latestEdit;
                latestEdit = e;
            } else if (e.kind == GONE) {
                gone = e;
            } else if (e.kind == PINNED) {
                pinned = !pinned;
            }
        }

        byte[] wordsFor(int member) {
            if (gone != null || ended) {
                return NO_TEXT;
            }
            for (Entry edit = latestEdit; edit != null; edit = edit.editBefore) {
                if (edit.isOpenTo(member)) {
                    return edit.words;
                }
            }
            return words;
        }

        byte[] keptWords() {
            if (ended) {
                return NO_TEXT;
            }
            return latestEdit != null ? latestEdit.words : words;
        }
    }

    private static final class Row {
        final int room;
        final Entry[] entries;
        final int[] marks;
        int size;
        /** A bit for each member that is in the room now. */
        int inside;
        int endAge;
        int holdFrom;
        int holdTo;

        Row(int room) {
            this.room = room;
            entries = new Entry[ROW_LIMIT];
            marks = new int[MEMBERS];
            Arrays.fill(marks, -1);
            size = 0;
            inside = 0;
            endAge = NONE;
            holdFrom = -1;
            holdTo = -1;
        }

        boolean isFull() {
            return size >= ROW_LIMIT;
        }

        boolean hasInside(int member) {
            return (inside >> member & 1) == 1;
        }

        int nextCode() {
            return ROOM_STEP * room + size;
        }

        void append(Entry e) {
            if (isFull()) {
                return;
            }
            e.seers = inside;
            entries[size] = e;
            size++;
        }

        int letIn(int member, boolean withThePast, int time) {
            int bit = 1 << member;
            if (withThePast) {
                for (int place = 0; place < size; place++) {
                    entries[place].seers |= bit;
                }
            }
            inside |= bit;
            return appendMove(JOIN, member, time);
        }

        int letGo(int member, int time) {
            // The row takes the leave first: a member sees its own.
            int place = appendMove(LEAVE, member, time);
            inside &= ~(1 << member);
            return place;
        }

        int appendMove(int kind, int member, int time) {
            Entry e = new Entry(nextCode(), kind, time, member, NONE, NO_TEXT);
            append(e);
            return e.place;
        }

        boolean holds(Entry e) {
            return e.isSaid() && holdFrom <= e.time && e.time <= holdTo;
        }

        void endOldOnes(int now) {
            if (endAge == NONE) {
                return;
            }
            for (int place = 0; place < size; place++) {
                Entry e = entries[place];
                if (e.isSaid() && now - e.time >= endAge && !holds(e)) {
                    e.ended = true;
                }
            }
        }

        int countSaid() {
            int total = 0;
            for (int place = 0; place < size; place++) {
                total += oneIf(entries[place].isSaid());
            }
            return total;
        }

        int countGone() {
            int total = 0;
            for (int place = 0; place < size; place++) {
                total += oneIf(entries[place].gone != null);
            }
            return total;
        }

        int countEnded() {
            int total = 0;
            for (int place = 0; place < size; place++) {
                total += oneIf(entries[place].ended);
            }
            return total;
        }

        int countHeld() {
            int total = 0;
            for (int place = 0; place < size; place++) {
                total += oneIf(holds(entries[place]));
            }
            return total;
        }
    }

    private static final class Device {
        int member;
        final Letter[] letters;
        int outSize;
        /** For each room a bit for each place that the device has: a row's 60 places fit into a long. */
        final long[] copies;

        Device(int member) {
            this.member = member;
            letters = new Letter[OUT_LIMIT];
            outSize = 0;
            copies = new long[ROOMS];
        }

        void passTo(int newMember) {
            member = newMember;
            outSize = 0;
            Arrays.fill(copies, 0L);
        }

        int putOut(Letter letter) {
            if (outSize >= OUT_LIMIT) {
                return FULL;
            }
            letters[outSize] = letter;
            outSize++;
            return outSize - 1;
        }

        boolean has(Entry e) {
            return e.room >= 0 && e.room < copies.length && (copies[e.room] >>> e.place & 1L) == 1L;
        }

        void add(Entry e) {
            if (e.room >= 0 && e.room < copies.length) {
                copies[e.room] |= 1L << e.place;
            }
        }

        boolean lacks(Entry e) {
            return e.isOpenTo(member) && !has(e);
        }

        /** Whether the device knows that a said one is no more. */
        boolean hasEndOf(Entry said) {
            return said.ended || (said.gone != null && has(said.gone));
        }

        byte[] wordsOf(Entry said) {
            if (hasEndOf(said)) {
                return NO_TEXT;
            }
            for (Entry edit = said.latestEdit; edit != null; edit = edit.editBefore) {
                if (has(edit)) {
                    return edit.words;
                }
            }
            return said.words;
        }

        boolean isBehindWith(Entry said) {
            if (!has(said)) {
                return false;
            }
            if (said.gone != null && !has(said.gone)) {
                return true;
            }
            for (Entry edit = said.latestEdit; edit != null; edit = edit.editBefore) {
                if (lacks(edit)) {
                    return true;
                }
            }
            return false;
        }

        int countNotSettled() {
            int total = 0;
            for (int number = 0; number < outSize; number++) {
                total += oneIf(letters[number].place == NONE);
            }
            return total;
        }

        int countCopies() {
            int total = 0;
            for (int room = 0; room < copies.length; room++) {
                total += Long.bitCount(copies[room]);
            }
            return total;
        }
    }
}
