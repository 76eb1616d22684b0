/**
 * A page that some write and others put back to how it was, as the document promises it.
 *
 * <p>This class asks for the ERRORS, in the document's order, and counts them; the classes inside
 * it hold what stands and trust that they were asked rightly.
 */
public final class PageWars {
    private static final int LOW = -1000000;
    private static final int BEYOND = 1;
    private static final int NONE = 2;
    private static final int STATE = 3;
    private static final int FULL = 4;
    private static final int KIND = 5;
    private static final int PARTED = 6;
    private static final int FINE = 0;

    private static final int LAST_MINUTE = 29999;
    private static final int DAY = 1440;
    private static final int MOST_GONE = 9999;
    private static final int MOST_LIVED = 60;
    private static final int WRITERS = 8;
    private static final int LIVING_WRITERS = 6;
    private static final int MACHINE = 7;
    private static final int MOST_ACTS = 60;
    private static final int MOST_WORDS = 20;
    private static final int LAST_WORD = 60;
    private static final int MOST_TALK = 999;
    private static final int MOST_WORTH = 9;
    private static final int MOST_SCORE = 100;
    private static final int MOST_COST = 99;
    private static final int MOST_WAITING = 24;

    private static final int KINDS = 8;
    private static final int TAKING_OUT = 0;
    private static final int NEW = 1;
    private static final int BACK = 2;
    private static final int HALF = 3;
    private static final int BOYISH = 4;
    private static final int MENDING = 5;
    private static final int SHUTTING = 6;
    private static final int TALK = 7;
    private static final int[] KIND_ABOVE = {-1, 0, 0, 2, 1, 1, 0, 0};

    private static final int USES = 8;
    private static final int RULE = 0;
    private static final int SIGN = 1;
    private static final int FIRST_WAY = 2;
    private static final int MOST_BYTES = 60;

    private final Book book = new Book();
    private final Reader reader = new Reader();
    private final Voices voices = new Voices();
    private final Sheets sheets = new Sheets();
    private final int[] errors = new int[PARTED + 1];
    private Book kept;
    private int timesKept;

    public PageWars() {
    }

    // ---- acts

    public int go(int n) {
        if (n < 1 || n > MOST_GONE) {
            return error(BEYOND);
        }
        if (book.now > LAST_MINUTE - n) {
            return error(STATE);
        }
        book.now += n;
        return book.now;
    }

    public int write(int kind, int wp, int word) {
        int refusal = book.refusesPutting(kind, wp, word);
        if (refusal != FINE) {
            return error(refusal);
        }
        return answered(book.puts(kind, wp, word));
    }

    public int cut(int wp) {
        int place = wp % 100;
        if (!isWriter(wp / 100) || place < 0 || place >= book.acts.pageSize()) {
            return error(BEYOND);
        }
        int refusal = book.refusesActing(wp / 100);
        if (refusal != FINE) {
            return error(refusal);
        }
        return answered(book.takesOut(wp / 100, place));
    }

    public int back(int writer, int version) {
        if (!isWriter(writer) || !isVersion(version)) {
            return error(BEYOND);
        }
        int refusal = book.refusesActing(writer);
        if (refusal != FINE) {
            return error(refusal);
        }
        return answered(book.putsBack(BACK, writer, version, MOST_WORDS));
    }

    public int half(int writer, int version, int n) {
        if (!isWriter(writer) || !isVersion(version) || n < 0 || n > MOST_WORDS) {
            return error(BEYOND);
        }
        int refusal = book.refusesActing(writer);
        if (refusal != FINE) {
            return error(refusal);
        }
        if (book.acts.halfSize(version, n) > MOST_WORDS) {
            return error(FULL);
        }
        return answered(book.putsBack(HALF, writer, version, n));
    }

    public int shut(int writer, int minutes) {
        if (!isWriter(writer) || minutes < 1 || minutes > MOST_GONE) {
            return error(BEYOND);
        }
        int refusal = book.refusesActing(writer);
        if (refusal != FINE) {
            return error(refusal);
        }
        return answered(book.shutsFor(writer, minutes));
    }

    public int talk(int writer, int n) {
        if (!isWriter(writer) || n < 1 || n > MOST_TALK) {
            return error(BEYOND);
        }
        int refusal = book.refusesActing(writer);
        if (refusal != FINE) {
            return error(refusal);
        }
        return answered(book.talksOf(writer, n));
    }

    public int actIs(int act, int what) {
        if (!isAct(act)) {
            return error(BEYOND);
        }
        switch (what) {
            case 0:
                return book.acts.kinds[act];
            case 1:
                return book.acts.writers[act];
            case 2:
                return book.acts.minutes[act];
            case 3:
                return book.acts.matters[act];
            case 4:
                return book.acts.undoers[act];
            case 5:
                return book.acts.scores[act];
            default:
                return error(BEYOND);
        }
    }

    public int as(int act, int kind) {
        if (!isAct(act) || kind < 0 || kind >= KINDS) {
            return error(BEYOND);
        }
        if (!Acts.isUnder(book.acts.kinds[act], kind)) {
            return error(KIND);
        }
        return book.acts.writers[act];
    }

    public int word(int version, int i) {
        if (!isVersion(version) || i < -1 || i >= book.acts.sizes[version]) {
            return error(BEYOND);
        }
        return i < 0 ? book.acts.sizes[version] : book.acts.wordAt(version, i);
    }

    public int origin(int version, int i) {
        if (!isVersion(version) || i < 0 || i >= book.acts.sizes[version]) {
            return error(BEYOND);
        }
        return book.acts.originAt(version, i);
    }

    public int may(int writer) {
        if (!isWriter(writer)) {
            return error(BEYOND);
        }
        return book.lets(writer) ? 1 : 0;
    }

    // ---- texts, living

    public int feed(long word, int n) {
        if (n < 1 || n > 8) {
            return error(BEYOND);
        }
        if (book.texts.taped > MOST_BYTES - n) {
            return error(FULL);
        }
        return book.texts.takes(word, n);
    }

    public int text(int use) {
        if (!isUse(use)) {
            return error(BEYOND);
        }
        int fault = reader.reads(book.texts, use);
        return fault < 0 ? 1 : -10 - fault;
    }

    public int untell(int use) {
        if (!isUse(use)) {
            return error(BEYOND);
        }
        return book.texts.drops(use) ? 1 : 0;
    }

    public int live(int n) {
        if (n < 1 || n > MOST_LIVED) {
            return error(BEYOND);
        }
        if (book.now > LAST_MINUTE - n) {
            return error(STATE);
        }
        for (int k = 0; k < n; k++) {
            for (int writer = 0; writer < LIVING_WRITERS; writer++) {
                book.livesAs(writer);
            }
            book.now++;
        }
        return book.now;
    }

    public int seed(int v) {
        int was = book.z;
        book.z = v;
        return was;
    }

    // ---- versions

    public int alike(int one, int other) {
        if (!isVersion(one) || !isVersion(other)) {
            return error(BEYOND);
        }
        return book.acts.areAlike(one, other) ? 1 : 0;
    }

    public int likeness(int one, int other) {
        if (!isVersion(one) || !isVersion(other)) {
            return error(BEYOND);
        }
        return book.acts.likenessOf(one, other);
    }

    public int from(int version) {
        if (!isVersion(version)) {
            return error(BEYOND);
        }
        if (version < 2) {
            return error(NONE);
        }
        return book.acts.likestBefore(version);
    }

    public int war(int act, int what) {
        if (!isAct(act)) {
            return error(BEYOND);
        }
        switch (what) {
            case 0:
                return book.acts.warLength(act);
            case 1:
                return book.acts.warEnd(act);
            case 2:
                return book.acts.warSide(act, 0);
            case 3:
                return book.acts.warSide(act, 1);
            default:
                return error(BEYOND);
        }
    }

    public int longest() {
        if (book.acts.done == 0) {
            return error(NONE);
        }
        return book.acts.longestWar();
    }

    public int stays(int act) {
        if (!isAct(act)) {
            return error(BEYOND);
        }
        return book.acts.staysOf(act, book.now);
    }

    public int writerIs(int writer, int what) {
        if (!isWriter(writer)) {
            return error(BEYOND);
        }
        switch (what) {
            case 0:
                return book.acts.wordsBy(writer, book.acts.done);
            case 1:
                return book.acts.staysBy(writer, book.now);
            case 2:
                return book.acts.undoneOf(writer);
            case 3:
                return book.acts.backsBy(writer, book.now);
            case 4:
                int minute = book.acts.offFrom(writer);
                return minute < 0 ? error(NONE) : minute;
            default:
                return error(BEYOND);
        }
    }

    public int read(int minute) {
        if (minute < 0 || minute > book.now) {
            return error(BEYOND);
        }
        return book.acts.thereAt(minute);
    }

    public int wrong(int version, int from, int to) {
        if (!isVersion(version) || !areMinutes(from, to)) {
            return error(BEYOND);
        }
        return book.minutesAlike(version, from, to);
    }

    // ---- hands, lines, worths

    public int hand(int one, int other) {
        if (!isWriter(one) || !isWriter(other) || one == other) {
            return error(BEYOND);
        }
        int fewer = Math.min(book.acts.doneBy(one), book.acts.doneBy(other));
        if (fewer == 0) {
            return error(NONE);
        }
        return 100 * book.acts.hoursInCommon(one, other) / fewer;
    }

    public int score(int act, int v) {
        if (!isAct(act) || v < -1 || v > MOST_SCORE) {
            return error(BEYOND);
        }
        int was = book.acts.scores[act];
        book.acts.scores[act] = v;
        return was;
    }

    public int line(int x, int y, int what) {
        if (x < 0 || x > MOST_COST || y < 0 || y > MOST_COST || what < 0 || what > 1) {
            return error(BEYOND);
        }
        int cheapest = book.acts.cheapestLine(x, y);
        return what == 0 ? cheapest : book.acts.lineCosts(cheapest, x, y);
    }

    public int worth(int word, int v) {
        if (!isWord(word) || v < -MOST_WORTH || v > MOST_WORTH) {
            return error(BEYOND);
        }
        int was = book.worths[word];
        book.worths[word] = v;
        return was;
    }

    public int value(int version) {
        if (!isVersion(version)) {
            return error(BEYOND);
        }
        return book.worthOf(version);
    }

    public int best() {
        return book.worthiest();
    }

    public int got(int from, int to) {
        if (!areMinutes(from, to)) {
            return error(BEYOND);
        }
        return book.worthRead(from, to);
    }

    // ---- voices, sheets, images, what is told

    public int voice(int act, int voice, int x) {
        if (!isAct(act) || voice < 0 || voice >= Voices.VOICES) {
            return error(BEYOND);
        }
        int answer = voices.heard(book.acts, act, voice, x);
        return voices.parted ? error(PARTED) : answer;
    }

    public int body(int i) {
        if (i < 0 || i >= voices.traced) {
            return error(NONE);
        }
        return voices.trace[i];
    }

    public int sheet(int sheet, int bits, int n) {
        if (!isSheet(sheet) || bits != 0 && bits != 8 && bits != 16 && bits != 32) {
            return error(BEYOND);
        }
        if (bits != 0 && n < 0) {
            return error(STATE);
        }
        if (bits != 0 && n > Sheets.MOST_NUMBERS) {
            return error(BEYOND);
        }
        sheets.lays(sheet, bits, n);
        return 1;
    }

    public int put(int sheet, int i, int v) {
        if (!isSheet(sheet)) {
            return error(BEYOND);
        }
        if (sheets.bits[sheet] == 0) {
            return error(NONE);
        }
        if (i < 0 || i >= sheets.sizes[sheet]) {
            return error(BEYOND);
        }
        sheets.sets(sheet, i, v);
        return 1;
    }

    public int move(int sheet, int i, int other, int j, int n) {
        if (!isSheet(sheet) || !isSheet(other)) {
            return error(BEYOND);
        }
        if (sheets.bits[sheet] == 0 || sheets.bits[other] == 0) {
            return error(NONE);
        }
        if (sheets.bits[sheet] != sheets.bits[other]) {
            return error(KIND);
        }
        if (!sheets.hold(sheet, i, n) || !sheets.hold(other, j, n)) {
            return error(BEYOND);
        }
        sheets.copies(sheet, i, other, j, n);
        return n;
    }

    public int words(int sheet, int writer) {
        if (!isSheet(sheet) || !isWriter(writer)) {
            return error(BEYOND);
        }
        if (sheets.bits[sheet] == 0) {
            return error(NONE);
        }
        for (int i = 0; i < sheets.sizes[sheet]; i++) {
            int wp = 100 * writer + book.acts.pageSize();
            int word = sheets.numberAt(sheet, i);
            if (book.refusesPutting(NEW, wp, word) != FINE) {
                return i;
            }
            answered(book.puts(NEW, wp, word));
        }
        return sheets.sizes[sheet];
    }

    public int image() {
        if (kept == null) {
            kept = new Book();
        }
        kept.becomes(book);
        timesKept++;
        return timesKept;
    }

    public int restore() {
        if (kept == null) {
            return error(NONE);
        }
        book.becomes(kept);
        return book.now;
    }

    public int tell(int v) {
        if (book.waits >= MOST_WAITING) {
            return error(FULL);
        }
        book.waiting[book.waits] = v;
        book.waits++;
        return book.waits;
    }

    public int check(int version) {
        int waited = book.waits;
        book.waits = 0;
        if (!isVersion(version)) {
            return error(BEYOND);
        }
        return book.firstUnlike(version, waited) + 1;
    }

    public int count(int what) {
        switch (what) {
            case 0:
                return book.now;
            case 1:
                return book.acts.done;
            case 2:
                return book.acts.pageSize();
            case 3:
                return book.shutTill;
            case 4:
                return book.texts.taped;
            case 5:
                return book.waits;
            case 6:
                return voices.traced;
            case 7:
                return book.z;
            default:
                return error(BEYOND);
        }
    }

    public int told(int k) {
        if (k < BEYOND || k > PARTED) {
            return error(BEYOND);
        }
        return errors[k];
    }

    private int error(int k) {
        errors[k]++;
        return LOW - k;
    }

    private int answered(int act) {
        book.machineAnswers(act);
        return act;
    }

    private boolean isAct(int act) {
        return act >= 0 && act < book.acts.done;
    }

    private boolean isVersion(int version) {
        return version >= 0 && version <= book.acts.done;
    }

    private boolean areMinutes(int from, int to) {
        return from >= 0 && from <= to && to <= book.now;
    }

    private static boolean isWriter(int writer) {
        return writer >= 0 && writer < WRITERS;
    }

    private static boolean isWord(int word) {
        return word >= 1 && word <= LAST_WORD;
    }

    private static boolean isUse(int use) {
        return use >= 0 && use < USES;
    }

    private static boolean isSheet(int sheet) {
        return sheet >= 0 && sheet < Sheets.SHEETS;
    }

    /** All that an IMAGE keeps, and how it goes on. */
    private static final class Book {
        private int now;
        private int shutTill;
        private int shutBy;
        private int z = 1;
        private int waits;
        private final int[] waiting = new int[MOST_WAITING];
        private final int[] worths = new int[LAST_WORD + 1];
        private final Acts acts = new Acts();
        private final Texts texts = new Texts();

        void becomes(Book other) {
            now = other.now;
            shutTill = other.shutTill;
            shutBy = other.shutBy;
            z = other.z;
            waits = other.waits;
            System.arraycopy(other.waiting, 0, waiting, 0, waiting.length);
            System.arraycopy(other.worths, 0, worths, 0, worths.length);
            acts.becomes(other.acts);
            texts.becomes(other.texts);
        }

        boolean lets(int writer) {
            if (now < shutTill && writer != shutBy) {
                return false;
            }
            if (!texts.has(RULE)) {
                return true;
            }
            texts.names(acts.backsBy(writer, now), writer, now % DAY, acts.pageSize(),
                    acts.doneBy(writer));
            return texts.worked(RULE) != 0;
        }

        int refusesActing(int writer) {
            if (!lets(writer)) {
                return STATE;
            }
            return acts.hasRoom() ? FINE : FULL;
        }

        int refusesPutting(int kind, int wp, int word) {
            if (kind != NEW && kind != BOYISH && kind != MENDING) {
                return BEYOND;
            }
            int place = wp % 100;
            int last = kind == MENDING ? acts.pageSize() - 1 : acts.pageSize();
            if (!isWriter(wp / 100) || !isWord(word) || place < 0 || place > last) {
                return BEYOND;
            }
            int refusal = refusesActing(wp / 100);
            if (refusal == FINE && kind != MENDING && acts.pageSize() >= MOST_WORDS) {
                return FULL;
            }
            return refusal;
        }

        int puts(int kind, int wp, int word) {
            if (kind == MENDING) {
                acts.draftsMending(wp % 100, word);
            } else {
                acts.draftsPutting(wp % 100, word);
            }
            return acts.records(kind, wp / 100, now, word);
        }

        int takesOut(int writer, int place) {
            int word = acts.wordAt(acts.done, place);
            acts.draftsTakingOut(place);
            return acts.records(TAKING_OUT, writer, now, word);
        }

        int putsBack(int kind, int writer, int version, int n) {
            acts.draftsHalf(version, n);
            return acts.records(kind, writer, now, version);
        }

        int shutsFor(int writer, int minutes) {
            shutTill = now + minutes;
            shutBy = writer;
            acts.draftsSame();
            return acts.records(SHUTTING, writer, now, shutTill);
        }

        int talksOf(int writer, int n) {
            acts.draftsSame();
            return acts.records(TALK, writer, now, n);
        }

        void machineAnswers(int act) {
            if (acts.writers[act] == MACHINE || !texts.has(SIGN)) {
                return;
            }
            int size = acts.sizes[act + 1];
            texts.names(acts.kinds[act], acts.writers[act], size, size - acts.sizes[act],
                    acts.undoneBy(act));
            if (texts.worked(SIGN) != 0 && acts.hasRoom() && lets(MACHINE)) {
                putsBack(BACK, MACHINE, act, MOST_WORDS);
            }
        }

        void livesAs(int writer) {
            if (!texts.has(FIRST_WAY + writer)) {
                return;
            }
            // The draw is made whatever comes of it.
            int drawn = draws() % 100;
            if (!acts.hasRoom()) {
                return;
            }
            texts.names(acts.pageSize(), now % DAY, acts.backsBy(writer, now),
                    acts.wordsBy(writer, acts.done), drawn);
            int way = texts.worked(FIRST_WAY + writer);
            int act = lets(writer) ? goesWay(writer, way) : -1;
            if (act >= 0) {
                machineAnswers(act);
            }
        }

        private int draws() {
            z = z * 1103515245 + 12345;
            return z >>> 8;
        }

        /** The ACT that was done, or -1. */
        private int goesWay(int writer, int way) {
            int size = acts.pageSize();
            switch (way) {
                case 1:
                    return size < MOST_WORDS ? puts(NEW, 100 * writer + size, writer + 1) : -1;
                case 2:
                    return size > 0 ? takesOut(writer, size - 1) : -1;
                case 3:
                    int latest = acts.latestOnPage(writer);
                    return latest >= 0 ? putsBack(BACK, writer, latest + 1, MOST_WORDS) : -1;
                case 4:
                    return putsBack(BACK, writer, 0, MOST_WORDS);
                default:
                    return -1;
            }
        }

        int minutesAlike(int version, int from, int to) {
            int minutes = 0;
            for (int v = 0; v <= acts.done; v++) {
                if (acts.areAlike(v, version)) {
                    minutes += acts.minutesThere(v, from, to);
                }
            }
            return minutes;
        }

        int worthOf(int version) {
            int sum = 0;
            for (int i = 0; i < acts.sizes[version]; i++) {
                sum += worths[acts.wordAt(version, i)];
            }
            return sum;
        }

        int worthiest() {
            int found = 0;
            int most = worthOf(0);
            for (int v = 1; v <= acts.done; v++) {
                int sum = worthOf(v);
                if (sum > most) {
                    most = sum;
                    found = v;
                }
            }
            return found;
        }

        int worthRead(int from, int to) {
            int sum = 0;
            for (int v = 0; v <= acts.done; v++) {
                sum += worthOf(v) * acts.minutesThere(v, from, to);
            }
            return sum;
        }

        /** The place of the first number that is not the VERSION's WORD there, or -1. */
        int firstUnlike(int version, int waited) {
            int size = acts.sizes[version];
            int both = Math.min(waited, size);
            for (int i = 0; i < both; i++) {
                if (waiting[i] != acts.wordAt(version, i)) {
                    return i;
                }
            }
            return waited == size ? -1 : both;
        }
    }

    /** ACTS and the VERSIONS behind them; a VERSION is drafted first, then its ACT recorded. */
    private static final class Acts {
        // A cell is a WORD and its ORIGIN in one number, so that both always go together.
        private static final int ORIGIN_SHIFT = 6;
        private static final int WORD_MASK = 63;
        private static final int HOURS = 24;

        private int done;
        private final int[] kinds = new int[MOST_ACTS];
        private final int[] writers = new int[MOST_ACTS];
        private final int[] minutes = new int[MOST_ACTS];
        private final int[] matters = new int[MOST_ACTS];
        private final int[] undoers = new int[MOST_ACTS];
        private final int[] scores = new int[MOST_ACTS];
        private final int[] sizes = new int[MOST_ACTS + 1];
        private final int[] cells = new int[(MOST_ACTS + 1) * MOST_WORDS];
        private final int[] common = new int[MOST_WORDS + 1];

        void becomes(Acts other) {
            done = other.done;
            System.arraycopy(other.kinds, 0, kinds, 0, done);
            System.arraycopy(other.writers, 0, writers, 0, done);
            System.arraycopy(other.minutes, 0, minutes, 0, done);
            System.arraycopy(other.matters, 0, matters, 0, done);
            System.arraycopy(other.undoers, 0, undoers, 0, done);
            System.arraycopy(other.scores, 0, scores, 0, done);
            System.arraycopy(other.sizes, 0, sizes, 0, done + 1);
            System.arraycopy(other.cells, 0, cells, 0, (done + 1) * MOST_WORDS);
        }

        boolean hasRoom() {
            return done < MOST_ACTS;
        }

        int pageSize() {
            return sizes[done];
        }

        int wordAt(int version, int i) {
            return cells[version * MOST_WORDS + i] & WORD_MASK;
        }

        int originAt(int version, int i) {
            return cells[version * MOST_WORDS + i] >> ORIGIN_SHIFT;
        }

        void draftsSame() {
            draftsHalf(done, MOST_WORDS);
        }

        void draftsPutting(int place, int word) {
            int page = done * MOST_WORDS;
            int draft = page + MOST_WORDS;
            int size = sizes[done];
            System.arraycopy(cells, page, cells, draft, place);
            System.arraycopy(cells, page + place, cells, draft + place + 1, size - place);
            cells[draft + place] = done << ORIGIN_SHIFT | word;
            sizes[done + 1] = size + 1;
        }

        void draftsMending(int place, int word) {
            draftsHalf(done, MOST_WORDS);
            cells[(done + 1) * MOST_WORDS + place] = done << ORIGIN_SHIFT | word;
        }

        void draftsTakingOut(int place) {
            int page = done * MOST_WORDS;
            int draft = page + MOST_WORDS;
            int size = sizes[done];
            System.arraycopy(cells, page, cells, draft, place);
            System.arraycopy(cells, page + place + 1, cells, draft + place, size - place - 1);
            sizes[done + 1] = size - 1;
        }

        /** With n MOST_WORDS it is a BACK: nothing of THE PAGE is left behind. */
        void draftsHalf(int version, int n) {
            int draft = (done + 1) * MOST_WORDS;
            int first = Math.min(n, sizes[version]);
            int rest = Math.max(0, sizes[done] - n);
            System.arraycopy(cells, version * MOST_WORDS, cells, draft, first);
            if (rest > 0) {
                System.arraycopy(cells, done * MOST_WORDS + n, cells, draft + first, rest);
            }
            sizes[done + 1] = first + rest;
        }

        int halfSize(int version, int n) {
            return Math.min(n, sizes[version]) + Math.max(0, sizes[done] - n);
        }

        int records(int kind, int writer, int minute, int matter) {
            int act = done;
            kinds[act] = kind;
            writers[act] = writer;
            minutes[act] = minute;
            matters[act] = matter;
            undoers[act] = -1;
            scores[act] = -1;
            done = act + 1;
            for (int i = 0; i < act; i++) {
                if (undoers[i] < 0 && !areAlike(i, i + 1) && areAlike(i, done)) {
                    undoers[i] = act;
                }
            }
            return act;
        }

        static boolean isUnder(int kind, int above) {
            int k = kind;
            for (int steps = 0; steps < KINDS && k > 0 && k != above; steps++) {
                k = KIND_ABOVE[k];
            }
            return k == above;
        }

        boolean areAlike(int one, int other) {
            if (sizes[one] != sizes[other]) {
                return false;
            }
            for (int i = 0; i < sizes[one]; i++) {
                if (wordAt(one, i) != wordAt(other, i)) {
                    return false;
                }
            }
            return true;
        }

        int likenessOf(int one, int other) {
            int longer = Math.max(sizes[one], sizes[other]);
            if (longer == 0) {
                return 100;
            }
            // common[j] tells of the first j WORDS of the other one, so one row is enough.
            for (int j = 0; j < common.length; j++) {
                common[j] = 0;
            }
            for (int i = 0; i < sizes[one]; i++) {
                int word = wordAt(one, i);
                int slant = 0;
                for (int j = 0; j < sizes[other]; j++) {
                    int above = common[j + 1];
                    common[j + 1] = word == wordAt(other, j) ? slant + 1
                            : Math.max(above, common[j]);
                    slant = above;
                }
            }
            return 100 * common[sizes[other]] / longer;
        }

        int likestBefore(int version) {
            int found = 0;
            int most = -1;
            for (int v = 0; v < version - 1; v++) {
                int likeness = likenessOf(v, version);
                if (likeness >= most) {
                    most = likeness;
                    found = v;
                }
            }
            return found;
        }

        int warLength(int act) {
            int length = 0;
            for (int i = act; i >= 0 && length < MOST_ACTS; i = undoers[i]) {
                length++;
            }
            return length;
        }

        int warEnd(int act) {
            int end = act;
            for (int k = 0; k < MOST_ACTS && undoers[end] >= 0; k++) {
                end = undoers[end];
            }
            return end;
        }

        int warSide(int act, int side) {
            int bits = 0;
            int i = act;
            for (int k = 0; k < MOST_ACTS && i >= 0; k++) {
                if (k % 2 == side) {
                    bits |= 1 << writers[i];
                }
                i = undoers[i];
            }
            return bits;
        }

        int longestWar() {
            int found = 0;
            for (int i = 1; i < done; i++) {
                if (warLength(i) > warLength(found)) {
                    found = i;
                }
            }
            return found;
        }

        int thereAt(int minute) {
            int version = done;
            while (version > 0 && minutes[version - 1] > minute) {
                version--;
            }
            return version;
        }

        /** In how many MINUTES of these (to not; NOW at most) a VERSION was the one there. */
        int minutesThere(int version, int from, int to) {
            int begin = version > 0 ? Math.max(from, minutes[version - 1]) : from;
            int end = version < done ? Math.min(to, minutes[version]) : to;
            return Math.max(0, end - begin);
        }

        int staysOf(int act, int now) {
            int sum = 0;
            for (int v = act + 1; v <= done; v++) {
                sum += wordsOf(act, v) * minutesThere(v, 0, now);
            }
            return sum;
        }

        private int wordsOf(int act, int version) {
            int number = 0;
            for (int i = 0; i < sizes[version]; i++) {
                if (originAt(version, i) == act) {
                    number++;
                }
            }
            return number;
        }

        int staysBy(int writer, int now) {
            int sum = 0;
            for (int v = 1; v <= done; v++) {
                sum += wordsBy(writer, v) * minutesThere(v, 0, now);
            }
            return sum;
        }

        int wordsBy(int writer, int version) {
            int number = 0;
            for (int i = 0; i < sizes[version]; i++) {
                if (writers[originAt(version, i)] == writer) {
                    number++;
                }
            }
            return number;
        }

        int doneBy(int writer) {
            int number = 0;
            for (int i = 0; i < done; i++) {
                if (writers[i] == writer) {
                    number++;
                }
            }
            return number;
        }

        int backsBy(int writer, int now) {
            int number = 0;
            for (int i = 0; i < done; i++) {
                if (writers[i] == writer && minutes[i] > now - DAY && isUnder(kinds[i], BACK)) {
                    number++;
                }
            }
            return number;
        }

        int latestOnPage(int writer) {
            for (int i = done - 1; i >= 0; i--) {
                if (writers[i] == writer && kinds[i] != TALK && kinds[i] != SHUTTING) {
                    return i;
                }
            }
            return -1;
        }

        int undoneBy(int act) {
            int number = 0;
            for (int i = 0; i < act; i++) {
                if (undoers[i] == act) {
                    number++;
                }
            }
            return number;
        }

        int undoneOf(int writer) {
            int number = 0;
            for (int i = 0; i < done; i++) {
                if (writers[i] == writer && undoers[i] >= 0) {
                    number++;
                }
            }
            return number;
        }

        /** The MINUTE, or -1; by the undoing ACTS, as these tell the order in time. */
        int offFrom(int writer) {
            int undone = 0;
            for (int act = 0; act < done; act++) {
                for (int i = 0; i < act && writers[act] != writer; i++) {
                    if (writers[i] == writer && undoers[i] == act) {
                        undone++;
                    }
                }
                if (undone >= 3) {
                    return minutes[act];
                }
            }
            return -1;
        }

        int hoursInCommon(int one, int other) {
            int sum = 0;
            for (int hour = 0; hour < HOURS; hour++) {
                sum += Math.min(doneInHour(one, hour), doneInHour(other, hour));
            }
            return sum;
        }

        private int doneInHour(int writer, int hour) {
            int number = 0;
            for (int i = 0; i < done; i++) {
                if (writers[i] == writer && minutes[i] / 60 % HOURS == hour) {
                    number++;
                }
            }
            return number;
        }

        int cheapestLine(int x, int y) {
            int found = 0;
            int least = lineCosts(0, x, y);
            for (int c = 1; c <= MOST_SCORE + 1; c++) {
                int costs = lineCosts(c, x, y);
                if (costs <= least) {
                    least = costs;
                    found = c;
                }
            }
            return found;
        }

        int lineCosts(int c, int x, int y) {
            int costs = 0;
            for (int i = 0; i < done; i++) {
                if (scores[i] >= 0) {
                    boolean boyish = isUnder(kinds[i], BOYISH);
                    if (scores[i] >= c && !boyish) {
                        costs += x;
                    } else if (scores[i] < c && boyish) {
                        costs += y;
                    }
                }
            }
            return costs;
        }
    }

    /**
     * THE TAPE and the TEXTS. A TEXT is kept in the order in which it is worked out, what an
     * operator joins ahead of it: NUMBERS as they are, the i-th NAME as -1 - i, operators as
     * their signs below 0 (which are all below those of NAMES).
     */
    private static final class Texts {
        private static final int NAMES = 5;

        private int taped;
        private final int[] tape = new int[MOST_BYTES];
        private final int[] codes = new int[USES * MOST_BYTES];
        private final int[] lengths = new int[USES];
        private final int[] named = new int[NAMES];
        private final int[] stack = new int[MOST_BYTES];

        void becomes(Texts other) {
            taped = other.taped;
            System.arraycopy(other.tape, 0, tape, 0, tape.length);
            System.arraycopy(other.codes, 0, codes, 0, codes.length);
            System.arraycopy(other.lengths, 0, lengths, 0, lengths.length);
        }

        int takes(long word, int n) {
            for (int i = 0; i < n; i++) {
                tape[taped] = (int) (word >>> 8 * i) & 255;
                taped++;
            }
            return taped;
        }

        boolean has(int use) {
            return lengths[use] > 0;
        }

        boolean drops(int use) {
            boolean had = has(use);
            lengths[use] = 0;
            return had;
        }

        void keeps(int use, int[] code, int length) {
            System.arraycopy(code, 0, codes, use * MOST_BYTES, length);
            lengths[use] = length;
        }

        /** What the five NAMES of a USE are, in the order of Reader's texts of NAMES. */
        void names(int first, int second, int third, int fourth, int fifth) {
            named[0] = first;
            named[1] = second;
            named[2] = third;
            named[3] = fourth;
            named[4] = fifth;
        }

        int worked(int use) {
            int depth = 0;
            for (int i = 0; i < lengths[use]; i++) {
                int code = codes[use * MOST_BYTES + i];
                if (code >= -NAMES && depth < MOST_BYTES) {
                    stack[depth] = code >= 0 ? code : named[-1 - code];
                    depth++;
                } else if (code == -'!' && depth > 0) {
                    stack[depth - 1] = stack[depth - 1] == 0 ? 1 : 0;
                } else if (depth > 1) {
                    depth--;
                    stack[depth - 1] = joined(-code, stack[depth - 1], stack[depth]);
                }
            }
            return stack[0];
        }

        private static int joined(int sign, int left, int right) {
            switch (sign) {
                case '|':
                    return left != 0 || right != 0 ? 1 : 0;
                case '&':
                    return left != 0 && right != 0 ? 1 : 0;
                case '<':
                    return left < right ? 1 : 0;
                case '=':
                    return left == right ? 1 : 0;
                case '>':
                    return left > right ? 1 : 0;
                case '+':
                    return left + right;
                case '-':
                    return left - right;
                case '*':
                    return left * right;
                case '/':
                    return right == 0 ? 0 : left / right;
                case '%':
                    return right == 0 ? 0 : left % right;
                default:
                    return 0;
            }
        }
    }

    /** Reads a TEXT from THE TAPE; where it stops is the FAULT. */
    private static final class Reader {
        private static final int MOST_OPEN = 5;
        private static final int MOST_DIGITS = 4;
        private static final int COMPARING = 2;
        private static final int INNERMOST = 5;
        private static final String RULE_NAMES = "bwmla";
        private static final String SIGN_NAMES = "kwldu";
        private static final String WAY_NAMES = "lmbor";

        private int at;
        private int coded;
        private int taped;
        private int[] tape = new int[0];
        private String names = WAY_NAMES;
        private final int[] code = new int[MOST_BYTES];

        /** The FAULT, or -1 if THE TAPE was a TEXT. */
        int reads(Texts texts, int use) {
            at = 0;
            coded = 0;
            tape = texts.tape;
            taped = texts.taped;
            names = use == RULE ? RULE_NAMES : use == SIGN ? SIGN_NAMES : WAY_NAMES;
            texts.taped = 0;
            if (!readsLevel(0, 0) || at < taped) {
                return at;
            }
            texts.keeps(use, code, coded);
            return -1;
        }

        /** Levels: 0 T, 1 A, 2 B, 3 S, 4 P, 5 Q. */
        private boolean readsLevel(int level, int open) {
            if (level >= INNERMOST) {
                return readsInnermost(open);
            }
            if (!readsLevel(level + 1, open)) {
                return false;
            }
            int times = level == COMPARING ? 1 : MOST_BYTES;
            for (int k = 0; k < times && isJoining(level); k++) {
                int sign = sign();
                at++;
                if (!readsLevel(level + 1, open)) {
                    return false;
                }
                adds(-sign);
            }
            return true;
        }

        private boolean readsInnermost(int open) {
            int sign = sign();
            if (isDigit(sign)) {
                readsNumber();
                return true;
            }
            int name = sign < 0 ? -1 : names.indexOf((char) sign);
            if (name >= 0) {
                at++;
                adds(-1 - name);
                return true;
            }
            if (open >= MOST_OPEN || sign != '!' && sign != '(') {
                return false;
            }
            at++;
            return sign == '!' ? readsDenied(open + 1) : readsInside(open + 1);
        }

        private boolean readsDenied(int open) {
            if (!readsInnermost(open)) {
                return false;
            }
            adds(-'!');
            return true;
        }

        private boolean readsInside(int open) {
            if (!readsLevel(0, open) || sign() != ')') {
                return false;
            }
            at++;
            return true;
        }

        private void readsNumber() {
            int number = 0;
            for (int k = 0; k < MOST_DIGITS && isDigit(sign()); k++) {
                number = number * 10 + sign() - '0';
                at++;
            }
            adds(number);
        }

        private int sign() {
            return at < taped && at < tape.length ? tape[at] : -1;
        }

        private boolean isJoining(int level) {
            int sign = sign();
            switch (level) {
                case 0:
                    return sign == '|';
                case 1:
                    return sign == '&';
                case COMPARING:
                    return sign == '<' || sign == '=' || sign == '>';
                case 3:
                    return sign == '+' || sign == '-';
                default:
                    return sign == '*' || sign == '/' || sign == '%';
            }
        }

        private static boolean isDigit(int sign) {
            return sign >= '0' && sign <= '9';
        }

        private void adds(int item) {
            if (coded < MOST_BYTES) {
                code[coded] = item;
                coded++;
            }
        }
    }

    /** VOICES of an ACT, and THE TRACE of the latest one. */
    private static final class Voices {
        private static final int VOICES = 4;
        private static final int DOES = 0;
        private static final int UNDOES = 1;
        private static final int STAYS = 2;
        private static final int TELLS = 3;
        private static final int MOST_TRACED = 30;
        private static final int DEEPEST = 40;
        // By KIND and VOICE; 0: the next KIND above that has one is asked.
        private static final int[] BODIES = {
            10, 11, 12, 13,
            20, 0, 21, 0,
            0, 30, 0, 31,
            0, 40, 41, 0,
            50, 0, 0, 0,
            0, 0, 60, 61,
            70, 0, 0, 0,
            0, 80, 0, 81};

        private int kind;
        private int number;
        private int writer;
        private boolean parted;
        private int traced;
        private final int[] trace = new int[MOST_TRACED];

        int heard(Acts acts, int act, int voice, int x) {
            kind = acts.kinds[act];
            number = act;
            writer = acts.writers[act];
            parted = false;
            traced = 0;
            return speaks(kind, voice, x, 0);
        }

        /** Behind a PARTED no BODY begins any more. */
        private int speaks(int lowest, int voice, int x, int depth) {
            if (parted || depth > DEEPEST || lowest < 0) {
                return 0;
            }
            int k = lowest;
            for (int up = 0; up < KINDS && k > 0 && BODIES[k * VOICES + voice] == 0; up++) {
                k = KIND_ABOVE[k];
            }
            int body = BODIES[k * VOICES + voice];
            if (traced < MOST_TRACED) {
                trace[traced] = body;
                traced++;
            }
            return k == TAKING_OUT ? says(body, x, depth + 1)
                    : saysAbove(body, KIND_ABOVE[k], x, depth + 1);
        }

        /** The BODIES of ACT itself, above which there is nothing. */
        private int says(int body, int x, int depth) {
            switch (body) {
                case 10:
                    return x + writer;
                case 11:
                    return speaks(kind, DOES, x, depth) * 2;
                case 12:
                    return speaks(kind, UNDOES, x, depth) - number;
                default:
                    return parts(x);
            }
        }

        private int parts(int x) {
            int divisor = number - 2;
            if (divisor == 0) {
                parted = true;
                return 0;
            }
            return x / divisor;
        }

        private int saysAbove(int body, int above, int x, int depth) {
            switch (body) {
                case 20:
                    return speaks(above, DOES, x, depth) + 3;
                case 21:
                    return speaks(above, STAYS, x, depth) ^ writer;
                case 30:
                    return 0 - speaks(above, UNDOES, x, depth);
                case 31:
                    return speaks(above, TELLS, x, depth) + speaks(kind, DOES, 1, depth);
                case 40:
                    return speaks(above, UNDOES, x / 2, depth);
                case 41:
                    return speaks(above, STAYS, x, depth) - speaks(kind, UNDOES, 2, depth);
                case 50:
                    return speaks(above, DOES, x, depth) * 3;
                case 60:
                    return speaks(above, STAYS, x + 1, depth);
                case 61:
                    return speaks(kind, STAYS, x, depth) - speaks(above, TELLS, x, depth);
                case 80:
                    return speaks(above, UNDOES, x, depth) + number;
                case 81:
                    return speaks(above, TELLS, x, depth) ^ 5;
                default:
                    return 0;
            }
        }
    }

    /** SHEETS; one of 0 bits is missing. */
    private static final class Sheets {
        private static final int SHEETS = 4;
        private static final int MOST_NUMBERS = 24;

        private final int[] bits = new int[SHEETS];
        private final int[] sizes = new int[SHEETS];
        private final int[] numbers = new int[SHEETS * MOST_NUMBERS];

        void lays(int sheet, int width, int n) {
            bits[sheet] = width;
            sizes[sheet] = width == 0 ? 0 : n;
            for (int i = 0; i < sizes[sheet]; i++) {
                numbers[sheet * MOST_NUMBERS + i] = 0;
            }
        }

        void sets(int sheet, int i, int v) {
            int spare = 32 - bits[sheet];
            numbers[sheet * MOST_NUMBERS + i] = v << spare >> spare;
        }

        int numberAt(int sheet, int i) {
            return numbers[sheet * MOST_NUMBERS + i];
        }

        /** i + n could wrap, so n is taken from the size instead. */
        boolean hold(int sheet, int i, int n) {
            return i >= 0 && n >= 0 && n <= sizes[sheet] && i <= sizes[sheet] - n;
        }

        void copies(int sheet, int i, int other, int j, int n) {
            System.arraycopy(numbers, sheet * MOST_NUMBERS + i,
                    numbers, other * MOST_NUMBERS + j, n);
        }
    }
}
