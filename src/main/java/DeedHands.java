/**
 * Small texts that ask for deeds, and hands around them that answer by texts of their own.
 * README.md tells how to use it; the document's promises are named by number at the methods.
 */
public final class DeedHands {
    public static final int NONE = -6, UNKNOWN = -1, OUTSIDE = -2, FULL = -4, NO = -5;

    private static final int NOTHING = -1;
    private static final int NUMBERS = 8;
    private static final int DEEDS = 3;
    private static final int BACK = 3;
    private static final int TEXTS = 4;
    private static final int HANDS = 4;
    private static final int PARTS = DEEDS + 1;
    private static final int FIRST_SIGN = 33;
    private static final int LAST_SIGN = 126;
    private static final int SIGNS = 40;
    private static final int WITHIN = 9;
    private static final int PAGES = TEXTS + HANDS * PARTS;
    private static final int PLACES = PAGES * SIGNS;
    private static final int REPLIES = 8;
    private static final int STEPS = 200;
    private static final int GOINGS = 40;
    private static final int ASKINGS = 200;
    private static final int ASKING = 8;
    private static final int SPENT = 9;
    private static final int NOBODY = 9;
    private static final int LAST_WHAT = 6;
    private static final int LENGTH = 4;
    private static final int GREATEST = 2;
    private static final int ROWS = 81;
    private static final int MORE = 2;

    private final Pad pad = new Pad();
    private final Book book = new Book();
    private final Row replies = new Row();
    private final Row trial = new Row();
    private final Row found = new Row();
    private final Run worked = new Run(book, replies);
    private final Written written = new Written(book);

    /** Promise 1. */
    public DeedHands() {
        for (int text = 0; text < TEXTS; text++) {
            book.writeNought(text);
        }
    }

    // ---- 1 texts

    /** Promise 2. */
    public int say(int sign) {
        if (sign < FIRST_SIGN || sign > LAST_SIGN) {
            return OUTSIDE;
        }
        return pad.add(sign) ? pad.size : FULL;
    }

    /** Promise 3. */
    public int wipe() {
        int size = pad.size;
        pad.size = 0;
        return size;
    }

    /** Promise 4. */
    public int fault(int how) {
        if (how != 0 && how != 1) {
            return OUTSIDE;
        }
        return pad.firstFault(how == 1);
    }

    /** Promise 5. */
    public int text(int text) {
        return isText(text) ? becomes(text, false) : UNKNOWN;
    }

    /** Promise 6. */
    public int clause(int hand, int deed) {
        return isPart(hand, deed) ? becomes(pageOf(hand, deed), deed != BACK) : UNKNOWN;
    }

    /** Promise 7. */
    public int drop(int hand, int deed) {
        if (!isPart(hand, deed)) {
            return UNKNOWN;
        }
        int page = pageOf(hand, deed);
        int size = book.size(page);
        if (size == 0) {
            return NO;
        }
        book.clear(page);
        return size;
    }

    /** Promise 8. */
    public int has(int hand) {
        return hand >= 0 && hand < HANDS ? book.clauses(hand) : UNKNOWN;
    }

    // ---- 2 runs

    /** Promise 9. */
    public int reply(int v) {
        if (!isNumber(v)) {
            return OUTSIDE;
        }
        return replies.add(v) ? replies.count : FULL;
    }

    /** Promise 10. */
    public int mute() {
        int count = replies.count;
        replies.start(0);
        return count;
    }

    /** Promise 11. */
    public int run(int text, int argument, int what) {
        if (!isText(text)) {
            return UNKNOWN;
        }
        if (!isNumber(argument) || what < 0 || what > LAST_WHAT) {
            return OUTSIDE;
        }
        worked.work(text, argument, replies);
        return worked.tell(what);
    }

    /** Promise 12. */
    public int who(int text, int argument, int i) {
        if (!isText(text)) {
            return UNKNOWN;
        }
        if (!isNumber(argument) || i < 0 || i >= ASKINGS) {
            return OUTSIDE;
        }
        worked.work(text, argument, replies);
        return worked.answerer(i);
    }

    // ---- 3 without a run

    /** Promise 13. */
    public int may(int hand, int which) {
        if (hand == NOTHING) {
            return isText(which) ? written.beyond(which) : UNKNOWN;
        }
        return isClause(hand, which) ? written.beyond(pageOf(hand, which)) : UNKNOWN;
    }

    /** Promise 14. */
    public int often(int hand, int deed) {
        return isClause(hand, deed) ? written.goings(pageOf(hand, deed)) : UNKNOWN;
    }

    // ---- 4 all replies

    /** Promise 15. */
    public int all(int text, int argument, int length, int c) {
        if (!isText(text)) {
            return UNKNOWN;
        }
        if (!isNumber(argument) || !areRows(length, c)) {
            return OUTSIDE;
        }
        return goThrough(text, argument, length, c, NOTHING);
    }

    /** Promise 16. */
    public int row(int text, int argument, int length, int c, int end, int i) {
        if (!isText(text)) {
            return UNKNOWN;
        }
        if (!isNumber(argument) || !areRows(length, c) || end < 0 || end > SPENT) {
            return OUTSIDE;
        }
        int ends = goThrough(text, argument, length, c, end);
        return (ends >> end & 1) == 0 ? NO : found.tell(i);
    }

    /** Promise 17. */
    public int apart(int text, int argument, int other, int with, int length, int c, int i) {
        if (!isText(text) || !isText(other)) {
            return UNKNOWN;
        }
        if (!isNumber(argument) || !isNumber(with) || !areRows(length, c)) {
            return OUTSIDE;
        }
        for (int n = 0; n <= length; n++) {
            trial.start(n);
            if (differ(text, argument, other, with, c)) {
                return trial.tell(i);
            }
        }
        return NONE;
    }

    /** Promise 18. */
    public int told(int what) {
        if (what == 0) {
            return pad.size;
        }
        if (what == 1) {
            return replies.count;
        }
        return what >= 10 && what < 10 + TEXTS ? book.size(what - 10) : OUTSIDE;
    }

    private static boolean isText(int text) {
        return text >= 0 && text < TEXTS;
    }

    private static boolean isNumber(int v) {
        return v >= 0 && v < NUMBERS;
    }

    private static boolean isPart(int hand, int part) {
        return hand >= 0 && hand < HANDS && part >= 0 && part < PARTS;
    }

    private static boolean areRows(int length, int c) {
        return length >= 0 && length <= LENGTH && c >= 0 && c <= GREATEST;
    }

    private boolean isClause(int hand, int part) {
        return isPart(hand, part) && book.size(pageOf(hand, part)) > 0;
    }

    private static int pageOf(int hand, int part) {
        return TEXTS + hand * PARTS + part;
    }

    /** How many texts of its own a sign has; NOTHING, if no text begins with it. */
    private static int textsOf(int sign) {
        switch (sign) {
            case '0': case '1': case '2': case '3': case '4': case '5': case '6': case '7': case 'x':
                return 0;
            case 'p': case 'q': case 'r': case 'k': case '@':
                return 1;
            case '+': case '-': case '*': case 'm':
                return 2;
            case '?':
                return 3;
            default:
                return NOTHING;
        }
    }

    private int becomes(int page, boolean goes) {
        if (pad.firstFault(goes) != NONE) {
            return NO;
        }
        book.write(page, pad);
        return wipe();
    }

    /**
     * The ends of all rows as bits; found becomes the row to the one that is sought.
     * Rows that begin with the same used replies run alike, so one of them stands for all.
     */
    private int goThrough(int text, int argument, int length, int c, int sought) {
        int ends = 0;
        boolean more = true;
        trial.start(length);
        for (int n = 0; n < ROWS && more; n++) {
            worked.work(text, argument, trial);
            boolean first = (ends & 1 << worked.end) == 0;
            if (worked.end == sought && (first || worked.used < found.count)) {
                found.take(trial, worked.used);
            }
            ends |= 1 << worked.end;
            more = trial.next(worked.used, c);
        }
        return ends;
    }

    /** Whether a row of the trial's length tells the two apart, if no shorter one does: the trial then is the first. */
    private boolean differ(int text, int argument, int other, int with, int c) {
        boolean more = true;
        for (int n = 0; n < ROWS && more; n++) {
            worked.work(text, argument, trial);
            int doing = worked.doing();
            int used = worked.used;
            worked.work(other, with, trial);
            if (worked.doing() != doing) {
                return true;
            }
            more = trial.next(used, c);
        }
        return false;
    }

    /** The signs that are said, until they become a text. */
    private static final class Pad {
        private final int[] signs = new int[SIGNS];
        private final int[] due = new int[WITHIN + 1];
        private int size;

        boolean add(int sign) {
            if (size < 0 || size >= SIGNS) {
                return false;
            }
            signs[size] = sign;
            size++;
            return true;
        }

        int sign(int at) {
            return at >= 0 && at < size && at < SIGNS ? signs[at] : 0;
        }

        /** Due has for each depth how many texts are still to come there; below depth 0 the whole stands. */
        int firstFault(boolean goes) {
            int depth = 0;
            due[0] = 1;
            for (int at = 0; at < size; at++) {
                if (depth < 0 || depth > WITHIN || !canStand(sign(at), depth, goes)) {
                    return at;
                }
                due[depth]--;
                int own = textsOf(sign(at));
                if (sign(at) == '@') {
                    at++;
                    if (at < size && !isHandSign(sign(at))) {
                        return at;
                    }
                }
                if (own > 0) {
                    depth++;
                    due[depth] = own;
                }
                depth = depthOfNext(depth);
            }
            return depth < 0 ? NONE : size;
        }

        private static boolean canStand(int sign, int depth, boolean goes) {
            int own = textsOf(sign);
            return own == 0 || own > 0 && depth < WITHIN && (goes || sign != 'k');
        }

        private static boolean isHandSign(int sign) {
            return sign >= '0' && sign < '0' + HANDS;
        }

        private int depthOfNext(int depth) {
            for (int d = depth; d >= 0; d--) {
                if (d <= WITHIN && due[d] > 0) {
                    return d;
                }
            }
            return NOTHING;
        }
    }

    /**
     * All that is written: a page for each text and clause. A place is a sign's number among the
     * signs of all pages; a page of size 0 has nothing on it. What is written has no fault.
     */
    private static final class Book {
        private final int[] signs = new int[PLACES];
        private final int[] afters = new int[PLACES];
        private final int[] sizes = new int[PAGES];

        int size(int page) {
            return page >= 0 && page < PAGES ? sizes[page] : 0;
        }

        void clear(int page) {
            if (page >= 0 && page < PAGES) {
                sizes[page] = 0;
            }
        }

        void writeNought(int page) {
            if (page >= 0 && page < PAGES) {
                signs[page * SIGNS] = '0';
                afters[page * SIGNS] = page * SIGNS + 1;
                sizes[page] = 1;
            }
        }

        void write(int page, Pad pad) {
            if (page < 0 || page >= PAGES) {
                return;
            }
            sizes[page] = pad.size;
            for (int at = Math.min(pad.size, SIGNS) - 1; at >= 0; at--) {
                int place = page * SIGNS + at;
                signs[place] = pad.sign(at);
                afters[place] = behind(place);
            }
        }

        /** The place behind the text that begins here; the places behind its own texts are known. */
        private int behind(int place) {
            int part = first(place);
            int own = textsOf(sign(place));
            for (int n = 0; n < own; n++) {
                part = after(part);
            }
            return part;
        }

        int sign(int place) {
            return place >= 0 && place < PLACES ? signs[place] : 0;
        }

        int after(int place) {
            return place >= 0 && place < PLACES ? afters[place] : NOTHING;
        }

        /** Where the first text of its own begins. */
        int first(int place) {
            return sign(place) == '@' ? place + 2 : place + 1;
        }

        /** The hand that is written here around a text, or NOTHING. */
        int hand(int place) {
            boolean around = place >= 0 && place < PLACES - 1 && signs[place] == '@';
            return around ? signs[place + 1] - '0' : NOTHING;
        }

        int clauses(int hand) {
            int bits = 0;
            for (int part = 0; part < PARTS; part++) {
                if (size(pageOf(hand, part)) > 0) {
                    bits |= 1 << part;
                }
            }
            return bits;
        }
    }

    /** A row of replies. */
    private static final class Row {
        private final int[] values = new int[REPLIES];
        private int count;

        /** Becomes the first row of that length. */
        void start(int length) {
            count = length >= 0 && length <= REPLIES ? length : 0;
            for (int i = 0; i < count; i++) {
                values[i] = 0;
            }
        }

        boolean add(int v) {
            if (count < 0 || count >= REPLIES) {
                return false;
            }
            values[count] = v;
            count++;
            return true;
        }

        int value(int i) {
            return i >= 0 && i < count && i < REPLIES ? values[i] : 0;
        }

        void take(Row other, int length) {
            start(length);
            for (int i = 0; i < count; i++) {
                values[i] = other.value(i);
            }
        }

        /** The document tells no range for i, so an i without a reply is NONE, never OUTSIDE. */
        int tell(int i) {
            if (i == -1) {
                return count;
            }
            return i >= 0 && i < count ? value(i) : NONE;
        }

        /** Becomes the next row that differs among the first used replies; false, if there is none. */
        boolean next(int used, int c) {
            for (int at = Math.min(Math.min(used, count), REPLIES) - 1; at >= 0; at--) {
                if (value(at) < c) {
                    values[at]++;
                    return true;
                }
                values[at] = 0;
            }
            return false;
        }
    }

    /**
     * All that waits in a run: frames, each upon the one below it. A frame is a place whose text is
     * begun, the call that it belongs to, and the first value of an act, if that is held already.
     * What waits and what is kept never share a frame: an asking moves frames, going on copies them.
     *
     * Each step lays down one frame at most. What is kept is never higher than the number of frames
     * that steps have laid down (neither an asking nor going on makes the pile with all that its
     * calls keep higher than it was), so each going on copies STEPS frames at most.
     */
    private static final class Waiting {
        private static final int ROOM = STEPS + GOINGS * STEPS;
        private static final int PLACE_MASK = 1023;
        private static final int HELD_SHIFT = 10;
        private static final int HELD_MASK = 15;
        private static final int CALL_SHIFT = 14;

        private final int[] marks = new int[ROOM];
        private final int[] belows = new int[ROOM];
        private int made;
        private int top;

        void clear() {
            made = 0;
            top = NOTHING;
        }

        private boolean stands(int frame) {
            return frame >= 0 && frame < made && frame < ROOM;
        }

        int place(int frame) {
            return stands(frame) ? marks[frame] & PLACE_MASK : NOTHING;
        }

        int call(int frame) {
            return stands(frame) ? marks[frame] >> CALL_SHIFT : NOTHING;
        }

        int below(int frame) {
            return stands(frame) ? belows[frame] : NOTHING;
        }

        /** The first value of an act, or NOTHING. */
        int held(int frame) {
            return stands(frame) ? (marks[frame] >> HELD_SHIFT & HELD_MASK) - 1 : NOTHING;
        }

        void hold(int frame, int value) {
            if (stands(frame)) {
                marks[frame] |= (value + 1) << HELD_SHIFT;
            }
        }

        /** False, if there is no room. */
        boolean push(int place, int call) {
            int under = top;
            top = made;
            return make(place | call << CALL_SHIFT, under);
        }

        private boolean make(int mark, int below) {
            if (made < 0 || made >= ROOM) {
                return false;
            }
            marks[made] = mark;
            belows[made] = below;
            made++;
            return true;
        }

        /** Lays a copy of what was kept upon what waits; false, if there is no room. */
        boolean layDown(int keptTop, int keptHand) {
            int under = top;
            int frame = keptTop;
            top = made;
            for (int n = 0; n < ROOM && stands(frame); n++) {
                boolean last = frame == keptHand;
                if (!make(marks[frame], last ? under : made + 1)) {
                    return false;
                }
                if (last) {
                    return true;
                }
                frame = belows[frame];
            }
            return false;
        }
    }

    /**
     * The texts and clauses that a run has entered, each with its argument and, for a deed's clause,
     * what it keeps. Each is entered by a step, and the step that is one too many may come behind it.
     */
    private static final class Calls {
        private static final int ROOM = STEPS + 1;

        private final int[] arguments = new int[ROOM];
        private final int[] keptTops = new int[ROOM];
        private final int[] keptHands = new int[ROOM];
        private int made;

        private boolean stands(int call) {
            return call >= 0 && call < made && call < ROOM;
        }

        /** The number of the new call. */
        int enter(int argument, int keptTop, int keptHand) {
            if (made < 0 || made >= ROOM) {
                return NOTHING;
            }
            arguments[made] = argument;
            keptTops[made] = keptTop;
            keptHands[made] = keptHand;
            made++;
            return made - 1;
        }

        int argument(int call) {
            return stands(call) ? arguments[call] : 0;
        }

        int keptTop(int call) {
            return stands(call) ? keptTops[call] : NOTHING;
        }

        int keptHand(int call) {
            return stands(call) ? keptHands[call] : NOTHING;
        }
    }

    /**
     * A run, and what is told of it when it has ended. At each turn either a text is begun, or the
     * frame that waits on top gets the value that is carried.
     */
    private static final class Run {
        // Far above what a run can need: each turn begins a step or takes up one of the frames.
        private static final int TURNS = 1000000;

        private final Book book;
        private final Waiting waiting = new Waiting();
        private final Calls calls = new Calls();
        private final int[] answers = new int[ASKINGS];
        private Row replies;
        private boolean begins;
        private int place;
        private int call;
        private int carried;
        private int end;
        private int steps;
        private int used;
        private int deed;
        private int value;
        private int goings;
        private int askings;

        Run(Book book, Row replies) {
            this.book = book;
            this.replies = replies;
        }

        void work(int page, int argument, Row given) {
            waiting.clear();
            calls.made = 0;
            replies = given;
            end = NOTHING;
            steps = 0;
            used = 0;
            deed = NONE;
            value = NONE;
            goings = 0;
            askings = 0;
            enter(page, argument, NOTHING, NOTHING);
            for (int n = 0; n < TURNS && end == NOTHING; n++) {
                if (begins) {
                    begin();
                } else {
                    takeUp();
                }
            }
            if (end == NOTHING) {
                end = SPENT;
            }
        }

        int tell(int what) {
            switch (what) {
                case 0:
                    return end;
                case 1:
                    return steps;
                case 2:
                    return used;
                case 3:
                    return deed;
                case 4:
                    return value;
                case 5:
                    return goings;
                default:
                    return askings;
            }
        }

        int answerer(int i) {
            return i >= 0 && i < askings && i < ASKINGS ? answers[i] : NONE;
        }

        /** One number for what the run has come to: equal ones do alike. */
        int doing() {
            return end == ASKING ? (deed + 1) * 100 + value : end;
        }

        private void enter(int page, int argument, int keptTop, int keptHand) {
            call = calls.enter(argument, keptTop, keptHand);
            place = page * SIGNS;
            begins = true;
        }

        private void give(int v) {
            carried = v;
            begins = false;
        }

        private void begin() {
            if (steps >= STEPS) {
                end = SPENT;
                return;
            }
            steps++;
            int sign = book.sign(place);
            if (sign == 'x') {
                give(calls.argument(call));
            } else if (textsOf(sign) == 0) {
                give(sign - '0');
            } else if (waiting.push(place, call)) {
                place = book.first(place);
            } else {
                end = SPENT;
            }
        }

        private void takeUp() {
            int frame = waiting.top;
            if (frame == NOTHING) {
                end = carried;
                return;
            }
            place = waiting.place(frame);
            call = waiting.call(frame);
            int sign = book.sign(place);
            if (textsOf(sign) == 2 && waiting.held(frame) == NOTHING) {
                waiting.hold(frame, carried);
                place = book.after(book.first(place));
                begins = true;
                return;
            }
            waiting.top = waiting.below(frame);
            switch (sign) {
                case '?':
                    choose();
                    break;
                case '@':
                    comeBack(book.hand(place));
                    break;
                case 'k':
                    goOn();
                    break;
                case 'p': case 'q': case 'r':
                    ask(sign - 'p', nearest(sign - 'p'));
                    break;
                default:
                    give(act(sign, waiting.held(frame), carried));
                    break;
            }
        }

        private static int act(int sign, int a, int b) {
            switch (sign) {
                case '+':
                    return (a + b) & (NUMBERS - 1);
                case '-':
                    return (a - b) & (NUMBERS - 1);
                case '*':
                    return (a * b) & (NUMBERS - 1);
                default:
                    return Math.min(a, b);
            }
        }

        private void choose() {
            int second = book.after(book.first(place));
            place = carried == 0 ? second : book.after(second);
            begins = true;
        }

        private void comeBack(int hand) {
            int page = pageOf(hand, BACK);
            if (book.size(page) > 0) {
                enter(page, carried, NOTHING, NOTHING);
            }
        }

        private void goOn() {
            if (goings >= GOINGS) {
                end = SPENT;
                return;
            }
            goings++;
            if (!waiting.layDown(calls.keptTop(call), calls.keptHand(call))) {
                end = SPENT;
            }
        }

        /** The frame is the one of the hand that answers, or NOTHING. */
        private void ask(int asked, int frame) {
            int hand = frame == NOTHING ? NOBODY : book.hand(waiting.place(frame));
            if (askings >= 0 && askings < ASKINGS) {
                answers[askings] = asked * 100 + carried * 10 + hand;
            }
            askings++;
            if (frame != NOTHING) {
                int top = waiting.top;
                waiting.top = waiting.below(frame);
                enter(pageOf(hand, asked), carried, top, frame);
            } else if (used < replies.count) {
                give(replies.value(used));
                used++;
            } else {
                end = ASKING;
                deed = asked;
                value = carried;
            }
        }

        /** The frame of the nearest hand that has a clause for that deed, or NOTHING. */
        private int nearest(int asked) {
            int frame = waiting.top;
            for (int n = 0; n < Waiting.ROOM && frame != NOTHING; n++) {
                int hand = book.hand(waiting.place(frame));
                if (hand != NOTHING && book.size(pageOf(hand, asked)) > 0) {
                    return frame;
                }
                frame = waiting.below(frame);
            }
            return NOTHING;
        }
    }

    /** What is told of texts as they are written, without a run. */
    private static final class Written {
        // Each pass but the last one adds a deed to a place.
        private static final int PASSES = PLACES * DEEDS + 1;

        private final Book book;
        private final int[] asks = new int[PLACES];
        private final int[] counts = new int[PLACES];
        private final int[] within = new int[HANDS];

        Written(Book book) {
            this.book = book;
        }

        /** The deeds that the text of that page may ask beyond it, as bits. */
        int beyond(int page) {
            for (int place = 0; place < PLACES; place++) {
                asks[place] = 0;
            }
            for (int hand = 0; hand < HANDS; hand++) {
                within[hand] = 0;
            }
            boolean more = true;
            for (int n = 0; n < PASSES && more; n++) {
                more = false;
                for (int p = 0; p < PAGES; p++) {
                    if (addsTo(p)) {
                        more = true;
                    }
                }
            }
            return asked(page * SIGNS);
        }

        /** Goes from the right, so that a text comes behind its own texts; the sign of a hand does no harm. */
        private boolean addsTo(int page) {
            boolean added = false;
            for (int at = Math.min(book.size(page), SIGNS) - 1; at >= 0; at--) {
                int place = page * SIGNS + at;
                int bits = asksOf(place);
                if (place >= 0 && place < PLACES && asks[place] != bits) {
                    asks[place] = bits;
                    added = true;
                }
                int hand = book.hand(place);
                if (hand >= 0 && hand < HANDS) {
                    within[hand] |= bits;
                }
            }
            return added;
        }

        private int asked(int place) {
            return place >= 0 && place < PLACES ? asks[place] : 0;
        }

        private int asksOf(int place) {
            int sign = book.sign(place);
            int bits = 0;
            int part = book.first(place);
            int own = textsOf(sign);
            for (int n = 0; n < own; n++) {
                bits |= asked(part);
                part = book.after(part);
            }
            switch (sign) {
                case 'p': case 'q': case 'r':
                    return bits | 1 << sign - 'p';
                case 'k':
                    return bits | whatGoesOn(place / SIGNS);
                case '@':
                    return pastHand(book.hand(place), bits);
                default:
                    return bits;
            }
        }

        /** What may be asked by all that a k of that page lays down again. */
        private int whatGoesOn(int page) {
            int hand = (page - TEXTS) / PARTS;
            return page >= TEXTS && hand < HANDS ? within[hand] : 0;
        }

        private int pastHand(int hand, int bits) {
            int clauses = book.clauses(hand);
            int worked = clauses & (bits | 1 << BACK);
            int past = bits & ~clauses;
            for (int part = 0; part < PARTS; part++) {
                if ((worked >> part & 1) == 1) {
                    past |= asked(pageOf(hand, part) * SIGNS);
                }
            }
            return past;
        }

        /** How many k at most are worked of what is written on that page; MORE for all beyond one. */
        int goings(int page) {
            for (int at = Math.min(book.size(page), SIGNS) - 1; at >= 0; at--) {
                int place = page * SIGNS + at;
                if (place >= 0 && place < PLACES) {
                    counts[place] = Math.min(goingsOf(place), MORE);
                }
            }
            return counted(page * SIGNS);
        }

        private int counted(int place) {
            return place >= 0 && place < PLACES ? counts[place] : 0;
        }

        private int goingsOf(int place) {
            int first = book.first(place);
            int second = book.after(first);
            switch (book.sign(place)) {
                case '+': case '-': case '*': case 'm':
                    return counted(first) + counted(second);
                case '?':
                    return counted(first) + Math.max(counted(second), counted(book.after(second)));
                case 'p': case 'q': case 'r':
                    return counted(first);
                case 'k':
                    return counted(first) + 1;
                case '@':
                    return counted(first) > 0 ? MORE : 0;
                default:
                    return 0;
            }
        }
    }
}
