import java.util.ArrayList;
import java.util.List;
import java.util.Random;

/**
 * Random runs of up to 512 calls against a second, slow telling of the document. The model keeps the
 * plain rows alone and looks through them for every answer, so that it shares no shortcut with the class.
 */
public final class ModelTest {
    private static final int BAD = TalkHouse.BAD, NO = TalkHouse.NO, FULL = TalkHouse.FULL, NONE = TalkHouse.NONE;
    private static final int RUNS = 4000, CALLS = 512;
    private static final int[] WILD = {
        Integer.MIN_VALUE, Integer.MIN_VALUE + 1, BAD, NO, NONE, -100, -2, -1, 6, 8, 12, 24, 59, 60, 61,
        99, 100, 159, 160, 299, 300, 1000, 1001, 1000000, 1000001, Integer.MAX_VALUE - 1, Integer.MAX_VALUE};

    public static void main(String[] args) {
        long[] asked = new long[29];
        long[] refused = new long[29];
        for (int run = 0; run < RUNS; run++) {
            if (!new Run(run, asked, refused).agrees()) {
                System.exit(1);
            }
        }
        for (int call = 1; call < 29; call++) {
            if (asked[call] == 0 || asked[call] == refused[call]) {
                System.out.println("promise " + (call + 1) + " was never answered in earnest");
                System.exit(1);
            }
        }
        System.out.println("the model agrees in " + RUNS + " runs");
    }

    /** One run: the same calls to both, told when the answers differ. */
    private static final class Run {
        final int seed;
        final Random random;
        final TalkHouse house = new TalkHouse();
        final Model model = new Model();
        final List<String> told = new ArrayList<>();
        final long[] asked;
        final long[] refused;
        /** How often a run moves people, speaks of earlier ones, uses the law: each run has its own mood. */
        final int wildness, rooms, law, moves;

        Run(int seed, long[] asked, long[] refused) {
            this.seed = seed;
            this.asked = asked;
            this.refused = refused;
            random = new Random(seed * 7919L + 17);
            wildness = random.nextInt(4) == 0 ? 10 : 150;
            rooms = 1 + random.nextInt(3);
            law = random.nextInt(4);
            moves = 1 + random.nextInt(4);
        }

        boolean agrees() {
            for (int k = 0; k < CALLS; k++) {
                if (!oneCall()) {
                    System.out.println("seed " + seed + ", the run so far:");
                    for (String call : told) {
                        System.out.println("  " + call);
                    }
                    return false;
                }
            }
            return true;
        }

        int below(int n) {
            return random.nextInt(n);
        }

        int wildOr(int plain) {
            return below(wildness) == 0 ? WILD[below(WILD.length)] : plain;
        }

        int room() {
            return wildOr(below(rooms));
        }

        int member() {
            return wildOr(below(10) < 7 ? below(3) : below(6));
        }

        int device() {
            int d = below(10);
            return wildOr(d < 3 ? d : d < 5 ? 6 : below(8));
        }

        int place(int room) {
            int size = room >= 0 && room < 3 ? model.rows.get(room).size() : 0;
            return wildOr(size == 0 || below(30) == 0 ? below(60) : below(size));
        }

        /** A place of a said one, if one is met soon. */
        int saidPlace(int room) {
            for (int k = 0; k < 6 && room >= 0 && room < 3; k++) {
                int p = place(room);
                if (model.isSaid(room, p)) {
                    return p;
                }
            }
            return place(room);
        }

        int index() {
            return wildOr(below(4) == 0 ? -1 : below(5));
        }

        long signs(int n) {
            long v = random.nextLong() << 32;
            for (int k = 0; k < n && k < 8; k++) {
                int sign = below(60) == 0 ? below(256) : below(3) == 0 ? " @AZ[`az{~".charAt(below(10)) : "abAB".charAt(below(4));
                v = v << 8 | sign;
            }
            return v;
        }

        boolean same(int promise, long got, long want, String name, long... args) {
            asked[promise - 1]++;
            if (want == BAD || want == NO || want == FULL) {
                refused[promise - 1]++;
            }
            StringBuilder call = new StringBuilder(name).append('(');
            for (int k = 0; k < args.length; k++) {
                call.append(k == 0 ? "" : ", ").append(args[k]);
            }
            call.append(") answered ").append(got);
            if (got != want) {
                call.append(", the model says ").append(want);
            }
            told.add(call.toString());
            return got == want;
        }

        boolean oneCall() {
            int dice = below(100);
            if (dice < 4 * moves) {
                return moveCall();
            }
            if (dice < 4 * moves + 3 * law) {
                return lawCall();
            }
            if (dice < 55) {
                return letterCall();
            }
            if (dice < 70) {
                return copyAct();
            }
            return readCall();
        }

        boolean moveCall() {
            int r = room(), m = member(), d = device(), n;
            switch (below(8)) {
                case 0: case 1: case 2:
                    n = wildOr(below(2));
                    return same(3, house.join(r, m, n), model.join(r, m, n), "join", r, m, n);
                case 3: case 4:
                    return same(4, house.leave(r, m), model.leave(r, m), "leave", r, m);
                case 5:
                    if (below(4) != 0) {
                        return true;
                    }
                    return same(2, house.own(d, m), model.own(d, m), "own", d, m);
                case 6:
                    n = wildOr(below(3));
                    return same(5, house.tick(n), model.tick(n), "tick", n);
                default:
                    n = wildOr(below(20) == 0 ? 1000 : below(5));
                    return same(5, house.tick(n), model.tick(n), "tick", n);
            }
        }

        boolean lawCall() {
            int r = room(), a = wildOr(below(8) == 0 ? NONE : below(30)), from = wildOr(below(30)), to = wildOr(from + below(12) - 1);
            if (below(2) == 0) {
                return same(28, house.age(r, a), model.age(r, a), "age", r, a);
            }
            if (below(5) == 0) {
                from = -1;
                to = -1;
            }
            return same(27, house.hold(r, from, to), model.hold(r, from, to), "hold", r, from, to);
        }

        boolean letterCall() {
            int d = device(), r = room(), n;
            switch (below(10)) {
                case 0: case 1: case 2:
                    n = wildOr(1 + below(below(3) == 0 ? 8 : 3));
                    long v = signs(n);
                    return same(6, house.feed(v, n), model.feed(v, n), "feed", v, n);
                case 3:
                    return below(8) != 0 || same(7, house.blank(), model.blank(), "blank");
                case 4: case 5: case 6:
                    return writeAndSend(d, r);
                case 7: case 8:
                    n = letterOf(d);
                    return same(9, house.send(d, n), model.send(d, n), "send", d, n);
                default:
                    n = letterOf(d);
                    int what = wildOr(below(5));
                    return same(10, house.out(d, n, what), model.out(d, n, what), "out", d, n, what);
            }
        }

        int letterOf(int d) {
            int size = d >= 0 && d < 8 ? model.outs.get(d).size() : 0;
            return wildOr(size == 0 ? below(12) : below(size));
        }

        boolean writeAndSend(int d, int r) {
            int kind = wildOr(below(3) == 0 ? 0 : below(6));
            int to = kind == 5 ? below(rooms) : r;
            int of = wildOr(kind == 0 ? NONE : 100 * to + saidPlace(to));
            int number = model.write(d, r, kind, of);
            if (!same(8, house.write(d, r, kind, of), number, "write", d, r, kind, of)) {
                return false;
            }
            if (number < 0 && d >= 0 && d < 8 && below(3) == 0) {
                int m = model.owner[d];
                return same(2, house.own(d, m), model.own(d, m), "own", d, m);
            }
            return below(4) == 0 || same(9, house.send(d, number), model.send(d, number), "send", d, number);
        }

        boolean copyAct() {
            int d = device(), r = room(), p = place(r), n = wildOr(1 + below(below(4) == 0 ? 60 : 4));
            if (below(3) == 0) {
                return same(18, house.ask(d, r, n), model.ask(d, r, n), "ask", d, r, n);
            }
            return same(16, house.take(d, r, p), model.take(d, r, p), "take", d, r, p);
        }

        boolean readCall() {
            int r = room(), p = saidPlace(r), m = member(), d = device(), i = index();
            switch (below(16)) {
                case 0: {
                    int what = wildOr(below(9)), q = place(r);
                    return same(11, house.entry(r, q, what), model.entry(r, q, what), "entry", r, q, what);
                }
                case 1: {
                    int kind = wildOr(below(9)), q = place(r);
                    return same(12, house.isOf(r, q, kind), model.isOf(r, q, kind), "isOf", r, q, kind);
                }
                case 2: {
                    int q = place(r);
                    return same(13, house.maySee(m, r, q), model.maySee(m, r, q), "maySee", m, r, q);
                }
                case 3: case 4:
                    return same(14, house.text(m, r, p, i), model.text(m, r, p, i), "text", m, r, p, i);
                case 5:
                    return same(15, house.kept(r, p, i), model.kept(r, p, i), "kept", r, p, i);
                case 6:
                    return same(17, house.gap(d, r), model.gap(d, r), "gap", d, r);
                case 7:
                    return same(19, house.shows(d, r, p, i), model.shows(d, r, p, i), "shows", d, r, p, i);
                case 8:
                    return quotedCall(d, r, p);
                case 9:
                    return same(21, house.behind(r, p), model.behind(r, p), "behind", r, p);
                case 10:
                    return same(22, house.sum(d, r), model.sum(d, r), "sum", d, r);
                case 11: {
                    int q = below(5) == 0 ? -1 : place(r);
                    return same(23, house.mark(m, r, q), model.mark(m, r, q), "mark", m, r, q);
                }
                case 12:
                    return same(24, house.unread(m, r), model.unread(m, r), "unread", m, r);
                case 13:
                    return same(25, house.find(m, r, i), model.find(m, r, i), "find", m, r, i);
                case 14:
                    return same(26, house.thread(m, r, p, i), model.thread(m, r, p, i), "thread", m, r, p, i);
                default: {
                    int what = wildOr(below(9));
                    return same(29, house.count(what), model.count(what), "count", what);
                }
            }
        }

        boolean quotedCall(int d, int r, int p) {
            int q = p;
            for (int k = 0; k < 20 && model.isThere(r, q) && model.rows.get(r).get(q).kind != 5; k++) {
                q = place(r);
            }
            return same(20, house.quoted(d, r, q), model.quoted(d, r, q), "quoted", d, r, q);
        }
    }

    private static final class Item {
        int kind, time, member, of = NONE;
        boolean past, ended;
        String words = "";
    }

    private static final class Note {
        int room, kind, of, place = NONE;
        String words = "";
    }

    /** The document's terms, one after another, each looked up in the plain rows. */
    private static final class Model {
        final List<List<Item>> rows = new ArrayList<>();
        final List<List<Note>> outs = new ArrayList<>();
        final boolean[][][] had = new boolean[8][3][60];
        final int[] owner = new int[8];
        final int[][] marks = new int[6][3];
        final int[] ages = {NONE, NONE, NONE};
        final int[][] holds = {{-1, -1}, {-1, -1}, {-1, -1}};
        String tape = "";
        int time = 0;

        Model() {
            for (int r = 0; r < 3; r++) {
                rows.add(new ArrayList<>());
                for (int m = 0; m < 6; m++) {
                    marks[m][r] = -1;
                }
            }
            for (int d = 0; d < 8; d++) {
                outs.add(new ArrayList<>());
                owner[d] = d % 6;
            }
        }

        // the terms

        static boolean in(int n, int from, int to) {
            return from <= n && n <= to;
        }

        static boolean member(int m) {
            return in(m, 0, 5);
        }

        static boolean room(int r) {
            return in(r, 0, 2);
        }

        static boolean device(int d) {
            return in(d, 0, 7);
        }

        boolean isThere(int r, int p) {
            return room(r) && in(p, 0, rows.get(r).size() - 1);
        }

        Item at(int r, int p) {
            return rows.get(r).get(p);
        }

        boolean isSaid(int r, int p) {
            return isThere(r, p) && (at(r, p).kind == 0 || at(r, p).kind == 3 || at(r, p).kind == 5);
        }

        boolean isIn(int r, int m) {
            boolean is = false;
            for (Item e : rows.get(r)) {
                if (e.member == m && e.kind >= 6) {
                    is = e.kind == 6;
                }
            }
            return is;
        }

        boolean sees(int m, int r, int p) {
            boolean wasIn = false;
            for (int q = 0; q <= p; q++) {
                Item e = at(r, q);
                if (e.member == m && e.kind >= 6) {
                    wasIn = e.kind == 6;
                }
            }
            boolean ownLeave = at(r, p).kind == 7 && at(r, p).member == m;
            boolean past = false;
            for (int q = p + 1; q < rows.get(r).size(); q++) {
                Item e = at(r, q);
                past |= e.kind == 6 && e.member == m && e.past;
            }
            return wasIn || ownLeave || past;
        }

        /** The places of all of this kind about a said one. */
        List<Integer> about(int r, int p, int kind) {
            List<Integer> all = new ArrayList<>();
            for (int q = 0; q < rows.get(r).size(); q++) {
                if (at(r, q).kind == kind && at(r, q).of == 100 * r + p) {
                    all.add(q);
                }
            }
            return all;
        }

        boolean isGone(int r, int p) {
            return isSaid(r, p) && !about(r, p, 2).isEmpty();
        }

        boolean isPinned(int r, int p) {
            return isSaid(r, p) && about(r, p, 4).size() % 2 == 1;
        }

        boolean isHeld(int r, int p) {
            return isSaid(r, p) && holds[r][0] != -1 && in(at(r, p).time, holds[r][0], holds[r][1]);
        }

        String textFor(int m, int r, int p) {
            if (isGone(r, p) || at(r, p).ended) {
                return "";
            }
            String words = at(r, p).words;
            for (int q : about(r, p, 1)) {
                if (sees(m, r, q)) {
                    words = at(r, q).words;
                }
            }
            return words;
        }

        String keptText(int r, int p) {
            if (at(r, p).ended) {
                return "";
            }
            String words = at(r, p).words;
            for (int q : about(r, p, 1)) {
                words = at(r, q).words;
            }
            return words;
        }

        boolean knowsGone(int d, int r, int p) {
            for (int q : about(r, p, 2)) {
                if (had[d][r][q]) {
                    return true;
                }
            }
            return false;
        }

        String shown(int d, int r, int p) {
            if (knowsGone(d, r, p) || at(r, p).ended) {
                return "";
            }
            String words = at(r, p).words;
            for (int q : about(r, p, 1)) {
                if (had[d][r][q]) {
                    words = at(r, q).words;
                }
            }
            return words;
        }

        void endOnes(int r) {
            for (int p = 0; p < rows.get(r).size() && ages[r] != NONE; p++) {
                if (isSaid(r, p) && !isHeld(r, p) && time - at(r, p).time >= ages[r]) {
                    at(r, p).ended = true;
                }
            }
        }

        static int signAt(String words, int i) {
            return i == -1 ? words.length() : i < words.length() ? words.charAt(i) : NONE;
        }

        static int yes(boolean is) {
            return is ? 1 : 0;
        }

        int put(int r, int kind, int m, int of, String words) {
            Item e = new Item();
            e.kind = kind;
            e.time = time;
            e.member = m;
            e.of = of;
            e.words = words;
            rows.get(r).add(e);
            return rows.get(r).size() - 1;
        }

        // the promises

        int own(int d, int m) {
            if (!device(d) || !member(m)) {
                return BAD;
            }
            int was = owner[d];
            owner[d] = m;
            outs.get(d).clear();
            had[d] = new boolean[3][60];
            return was;
        }

        int join(int r, int m, int past) {
            if (!room(r) || !member(m) || !in(past, 0, 1)) {
                return BAD;
            }
            if (isIn(r, m)) {
                return NO;
            }
            if (rows.get(r).size() == 60) {
                return FULL;
            }
            int p = put(r, 6, m, NONE, "");
            at(r, p).past = past == 1;
            return p;
        }

        int leave(int r, int m) {
            if (!room(r) || !member(m)) {
                return BAD;
            }
            if (!isIn(r, m)) {
                return NO;
            }
            return rows.get(r).size() == 60 ? FULL : put(r, 7, m, NONE, "");
        }

        int tick(int n) {
            if (!in(n, 0, 1000) || time + n > 1000000) {
                return BAD;
            }
            time += n;
            for (int r = 0; r < 3; r++) {
                endOnes(r);
            }
            return time;
        }

        int feed(long v, int n) {
            if (!in(n, 1, 8)) {
                return BAD;
            }
            String more = "";
            for (int k = 0; k < n; k++) {
                int b = (int) (v >> 8 * k & 0xFF);
                if (!in(b, 32, 126)) {
                    return BAD;
                }
                more = (char) b + more;
            }
            if (tape.length() + n > 24) {
                return FULL;
            }
            tape += more;
            return tape.length();
        }

        int blank() {
            int was = tape.length();
            tape = "";
            return was;
        }

        int write(int d, int r, int kind, int of) {
            String words = tape;
            tape = "";
            if (!device(d) || !room(r) || !in(kind, 0, 5)) {
                return BAD;
            }
            if (kind == 0 ? of != NONE : !(in(of, 0, 59) || in(of, 100, 159) || in(of, 200, 259))) {
                return BAD;
            }
            if (kind != 0 && kind != 5 && of / 100 != r) {
                return BAD;
            }
            if (outs.get(d).size() == 12) {
                return FULL;
            }
            Note note = new Note();
            note.room = r;
            note.kind = kind;
            note.of = of;
            note.words = kind == 2 || kind == 4 ? "" : words;
            outs.get(d).add(note);
            return outs.get(d).size() - 1;
        }

        Note note(int d, int n) {
            return device(d) && in(n, 0, outs.get(d).size() - 1) ? outs.get(d).get(n) : null;
        }

        int send(int d, int n) {
            Note note = note(d, n);
            if (note == null) {
                return BAD;
            }
            if (note.place != NONE) {
                return note.place;
            }
            int m = owner[d];
            if (!isIn(note.room, m)) {
                return -11;
            }
            int r = note.of / 100, p = note.of % 100;
            if (note.kind != 0 && (!isSaid(r, p) || !sees(m, r, p) || at(r, p).ended)) {
                return -12;
            }
            if ((note.kind == 1 || note.kind == 2) && (at(r, p).member != m || isGone(r, p))) {
                return -13;
            }
            if (rows.get(note.room).size() == 60) {
                return -14;
            }
            note.place = put(note.room, note.kind, m, note.of, note.words);
            return note.place;
        }

        int out(int d, int n, int what) {
            Note note = note(d, n);
            if (note == null || !in(what, 0, 4)) {
                return BAD;
            }
            return new int[] {note.room, note.kind, note.of, note.words.length(), note.place}[what];
        }

        int entry(int r, int p, int what) {
            if (!isThere(r, p) || !in(what, 0, 8)) {
                return BAD;
            }
            Item e = at(r, p);
            return new int[] {e.kind, e.time, e.member, e.of, yes(isGone(r, p)), yes(e.ended),
                yes(isPinned(r, p)), yes(isHeld(r, p)), e.words.length()}[what];
        }

        int isOf(int r, int p, int kind) {
            if (!isThere(r, p) || !in(kind, 0, 8)) {
                return BAD;
            }
            int k = at(r, p).kind;
            return yes(kind == 0 ? isSaid(r, p) : kind == 8 ? k == 1 || k == 2 || k == 4 : k == kind);
        }

        int maySee(int m, int r, int p) {
            return member(m) && isThere(r, p) ? yes(sees(m, r, p)) : BAD;
        }

        int text(int m, int r, int p, int i) {
            if (!member(m) || !isThere(r, p) || i < -1) {
                return BAD;
            }
            return isSaid(r, p) && sees(m, r, p) ? signAt(textFor(m, r, p), i) : NO;
        }

        int kept(int r, int p, int i) {
            if (!isThere(r, p) || i < -1) {
                return BAD;
            }
            return isSaid(r, p) ? signAt(keptText(r, p), i) : NO;
        }

        int take(int d, int r, int p) {
            if (!device(d) || !isThere(r, p)) {
                return BAD;
            }
            Item e = at(r, p);
            boolean goneOfHad = e.kind == 2 && had[d][r][e.of % 100];
            if (!sees(owner[d], r, p) && !goneOfHad) {
                return NO;
            }
            boolean was = had[d][r][p];
            had[d][r][p] = true;
            return yes(!was);
        }

        int gap(int d, int r) {
            if (!device(d) || !room(r)) {
                return BAD;
            }
            for (int p = 0; p < rows.get(r).size(); p++) {
                if (sees(owner[d], r, p) && !had[d][r][p]) {
                    return p;
                }
            }
            return NONE;
        }

        int ask(int d, int r, int n) {
            if (!device(d) || !room(r) || !in(n, 1, 60)) {
                return BAD;
            }
            int come = 0;
            for (int p = gap(d, r); p != NONE && come < n; p = gap(d, r)) {
                had[d][r][p] = true;
                come++;
            }
            return come;
        }

        int shows(int d, int r, int p, int i) {
            if (!device(d) || !isThere(r, p) || i < -1) {
                return BAD;
            }
            return isSaid(r, p) && had[d][r][p] ? signAt(shown(d, r, p), i) : NO;
        }

        int quoted(int d, int r, int p) {
            if (!device(d) || !isThere(r, p)) {
                return BAD;
            }
            Item e = at(r, p);
            if (e.kind != 5 || !had[d][r][p]) {
                return NO;
            }
            int r2 = e.of / 100, p2 = e.of % 100;
            return had[d][r2][p2] && !knowsGone(d, r2, p2) && !at(r2, p2).ended ? e.of : NONE;
        }

        int behind(int r, int p) {
            if (!isThere(r, p)) {
                return BAD;
            }
            if (!isSaid(r, p)) {
                return NO;
            }
            int late = 0;
            for (int d = 0; d < 8; d++) {
                boolean is = false;
                for (int q : about(r, p, 1)) {
                    is |= sees(owner[d], r, q) && !had[d][r][q];
                }
                for (int q : about(r, p, 2)) {
                    is |= !had[d][r][q];
                }
                late += yes(is && had[d][r][p]);
            }
            return late;
        }

        long sum(int d, int r) {
            if (!device(d) || !room(r)) {
                return 0;
            }
            long sum = 7;
            for (int p = 0; p < rows.get(r).size(); p++) {
                if (had[d][r][p]) {
                    sum = (sum * 31 + p) * 31 + at(r, p).kind;
                    String words = isSaid(r, p) ? shown(d, r, p) : "";
                    for (char c : words.toCharArray()) {
                        sum = sum * 31 + c;
                    }
                }
            }
            return sum;
        }

        int mark(int m, int r, int p) {
            if (!member(m) || !room(r) || !(p == -1 || isThere(r, p))) {
                return BAD;
            }
            marks[m][r] = Math.max(marks[m][r], p);
            return marks[m][r];
        }

        int unread(int m, int r) {
            if (!member(m) || !room(r)) {
                return BAD;
            }
            int n = 0;
            for (int p = 0; p < rows.get(r).size(); p++) {
                n += yes(p > marks[m][r] && isSaid(r, p) && at(r, p).member != m && sees(m, r, p)
                    && !isGone(r, p) && !at(r, p).ended);
            }
            return n;
        }

        int find(int m, int r, int i) {
            if (!member(m) || !room(r) || i < 0) {
                return BAD;
            }
            if (tape.isEmpty()) {
                return NO;
            }
            List<Integer> found = new ArrayList<>();
            for (int p = 0; p < rows.get(r).size(); p++) {
                if (isSaid(r, p) && sees(m, r, p) && fold(textFor(m, r, p)).contains(fold(tape))) {
                    found.add(p);
                }
            }
            return i < found.size() ? found.get(i) : NONE;
        }

        static String fold(String words) {
            String folded = "";
            for (char c : words.toCharArray()) {
                int k = "ABCDEFGHIJKLMNOPQRSTUVWXYZ".indexOf(c);
                folded += k < 0 ? c : "abcdefghijklmnopqrstuvwxyz".charAt(k);
            }
            return folded;
        }

        int thread(int m, int r, int p, int i) {
            if (!member(m) || !isThere(r, p) || i < 0) {
                return BAD;
            }
            if (!isSaid(r, p) || !sees(m, r, p)) {
                return NO;
            }
            List<Integer> under = new ArrayList<>();
            for (int q : about(r, p, 3)) {
                if (sees(m, r, q) && !isGone(r, q) && !at(r, q).ended) {
                    under.add(q);
                }
            }
            return i < under.size() ? under.get(i) : NONE;
        }

        int hold(int r, int from, int to) {
            boolean none = from == -1 && to == -1;
            if (!room(r) || !(none || in(from, 0, 1000000) && in(to, from, 1000000))) {
                return BAD;
            }
            holds[r] = new int[] {from, to};
            endOnes(r);
            int n = 0;
            for (int p = 0; p < rows.get(r).size(); p++) {
                n += yes(isHeld(r, p));
            }
            return n;
        }

        int age(int r, int a) {
            if (!room(r) || !(a == NONE || in(a, 0, 1000))) {
                return BAD;
            }
            ages[r] = a;
            endOnes(r);
            int n = 0;
            for (Item e : rows.get(r)) {
                n += yes(e.ended);
            }
            return n;
        }

        int count(int what) {
            int entries = 0, said = 0, gone = 0, ended = 0, letters = 0, open = 0, copies = 0;
            for (int r = 0; r < 3; r++) {
                for (int p = 0; p < rows.get(r).size(); p++) {
                    entries++;
                    said += yes(isSaid(r, p));
                    gone += yes(isGone(r, p));
                    ended += yes(at(r, p).ended);
                }
            }
            for (int d = 0; d < 8; d++) {
                for (Note note : outs.get(d)) {
                    letters++;
                    open += yes(note.place == NONE);
                }
                for (boolean[] row : had[d]) {
                    for (boolean has : row) {
                        copies += yes(has);
                    }
                }
            }
            int[] all = {entries, said, gone, ended, tape.length(), time, letters, open, copies};
            return in(what, 0, 8) ? all[what] : BAD;
        }
    }
}
