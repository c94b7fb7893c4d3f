import java.util.Arrays;

/**
 * A pass with a toll by heads, where the first cart of a train pays for all. The document
 * (../shared/DOC.md) tells its terms, written there in capitals, and its 31 promises.
 *
 * <p>All rows are made in the constructor and used again: no call makes an object.
 */
public final class FirstCart {
    public static final int NONE = -1000000, BAD = -1000001, STATE = -1000002, FULL = -1000003;

    private static final int FINDINGS = -1000010, FAULTS = -1000100;
    private static final int NULL = 1, PLACE = 2, NO_SUCH_KIND = 3, TOO_SMALL = 4, STORE = 5;

    private static final int ROWS = 8, BYTES = 0, SHORTS = 1, INTS = 2, MOST_ITEMS = 40;
    private static final int MOST_BYTES = 400, MOST_FIGURES = 3;
    private static final int MOST_CARTS = 6, TOLLS = 6, MOST_TOLL = 99, MOST_HASTE = 20;
    private static final int HOURS = 12, LAST_HOUR = 11, MOST_PATIENCE = 11, FORMING = 3;
    private static final int MOST_ACTS = 24, MOST_ROUNDS = 20, MOST_DAYS = 30;
    private static final int MOST_FORD_HOURS = 3, HUNDRED = 100, IMAGES = 2;
    private static final int NOBODY = -1, ABOVE_ANY_COST = 1000000;

    private static final int CART = 0, WAIT = 1, FORM = 2, BACK = 3, GO = 4, BLIND = 5, KINDS = 6;
    /** The KIND that a KIND is, too: the nearest one. */
    private static final int[] NEAREST = {CART, CART, WAIT, WAIT, CART, GO};
    /** The BODY that is told for a KIND (0: none is); at KIND 0 the one that is lent to all. */
    private static final int[] SIZE_BODY = {10, 11, 12, 0, 13, 14};
    private static final int[] MARK_BODY = {20, 21, 24, 22, 23, 0};
    private static final int MOST_TRACE = 16, MOST_DEPTH = 16;

    private final Row[] rows = new Row[ROWS];
    private final Reader reader = new Reader();
    private final Pass now = new Pass();
    private final Pass[] images = new Pass[IMAGES];
    private final Acts acts = new Acts();
    private final Foretold foretold = new Foretold();
    private final Asks asks = new Asks();
    private int fault;
    private int status;

    public FirstCart() {
        for (int r = 0; r < ROWS; r++) {
            rows[r] = new Row();
        }
        for (int k = 0; k < IMAGES; k++) {
            images[k] = new Pass();
        }
    }

    // ---- rows

    public int row(int row, int lane, int n) {
        if (!isRow(row) || !isWithin(lane, BYTES, INTS) || n > MOST_ITEMS) {
            return BAD;
        }
        if (n < 0) {
            return found(TOO_SMALL);
        }
        rows[row].begin(lane, n);
        status = 0;
        return n;
    }

    public int set(int row, int i, int v) {
        if (!isRow(row)) {
            return BAD;
        }
        Row r = rows[row];
        if (!r.isThere) {
            return found(NULL);
        }
        if (!r.hasPlaces(i, 1)) {
            return found(PLACE);
        }
        r.items[i] = r.lowestBits(v);
        status = 0;
        return r.items[i];
    }

    public int copy(int a, int i, int b, int j, int n) {
        if (!isRow(a) || !isRow(b)) {
            return BAD;
        }
        Row from = rows[a];
        Row to = rows[b];
        if (!from.isThere || !to.isThere) {
            return found(NULL);
        }
        if (from.lane != to.lane) {
            return found(STORE);
        }
        if (!from.hasPlaces(i, n) || !to.hasPlaces(j, n)) {
            return found(PLACE);
        }
        // arraycopy reads as if by way of a third row, so a ROW may come to itself.
        System.arraycopy(from.items, i, to.items, j, n);
        status = 0;
        return n;
    }

    public int drop(int row) {
        if (!isRow(row)) {
            return BAD;
        }
        Row r = rows[row];
        if (!r.isThere) {
            return found(NULL);
        }
        r.isThere = false;
        status = 0;
        return r.length;
    }

    // ---- passes, hours

    public int feed(long w, int n) {
        if (!isWithin(n, 1, 8)) {
            return BAD;
        }
        if (n > MOST_BYTES - reader.length) {
            return FULL;
        }
        for (int b = n - 1; b >= 0; b--) {
            reader.tape[reader.length] = (byte) (w >> (8 * b));
            reader.length++;
        }
        return reader.length;
    }

    public int pass() {
        boolean isRead = reader.readPass();
        reader.length = 0;
        if (!isRead) {
            fault = reader.fault;
            return FAULTS - reader.start;
        }
        now.become(reader.draft);
        acts.length = 0;
        return now.carts;
    }

    public int fault() {
        return fault;
    }

    public int hour() {
        if (!now.isTold) {
            return STATE;
        }
        if (now.hour > LAST_HOUR) {
            return FULL;
        }
        acts.keep(NOBODY, 0);
        return now.goBy();
    }

    public int waits(int cart, int patience) {
        if (!isCart(cart) || !isWithin(patience, 0, MOST_PATIENCE)) {
            return BAD;
        }
        if (now.went[cart] != NONE) {
            return STATE;
        }
        int before = now.patience[cart];
        acts.keep(cart, before);
        now.patience[cart] = patience;
        return before;
    }

    public int undo() {
        if (acts.length == 0) {
            return STATE;
        }
        acts.length--;
        int cart = acts.whose[acts.length];
        if (isCart(cart)) {
            now.patience[cart] = acts.before[acts.length];
        } else {
            now.goBack();
        }
        return acts.length;
    }

    public int cart(int cart, int what) {
        if (!isCart(cart)) {
            return BAD;
        }
        switch (what) {
            case 0: return now.come[cart];
            case 1: return now.haste[cart];
            case 2: return now.patience[cart];
            case 3: return now.went[cart];
            case 4: return now.paid[cart];
            case 5: return now.costOf(cart);
            default: return BAD;
        }
    }

    // ---- foretold

    public int day(int cart, int what) {
        if (!isCart(cart) || !isWithin(what, 0, 2)) {
            return BAD;
        }
        Pass day = foretold.dayOf(now);
        if (what == 0) {
            return day.went[cart];
        }
        return what == 1 ? day.costOf(cart) : day.paid[cart];
    }

    public int judge(int row, int i) {
        if (!now.isTold) {
            return STATE;
        }
        if (!isRow(row)) {
            return BAD;
        }
        Row r = rows[row];
        if (!r.isThere) {
            return found(NULL);
        }
        if (!r.hasPlaces(i, HOURS)) {
            return found(PLACE);
        }
        for (int h = 0; h < HOURS; h++) {
            if (r.items[i + h] != NOBODY && !isCart(r.items[i + h])) {
                return BAD;
            }
        }
        status = 0;
        Pass day = foretold.dayOf(now);
        for (int h = 0; h < HOURS; h++) {
            if (r.items[i + h] != day.payer[h]) {
                return h;
            }
        }
        return NONE;
    }

    public int best(int cart, int what) {
        if (!isCart(cart) || !isWithin(what, 0, 1)) {
            return BAD;
        }
        Pass day = foretold.dayWithBest(now, cart);
        return what == 0 ? day.patience[cart] : day.costOf(cart);
    }

    public int rest(int cart) {
        if (!now.isTold) {
            return STATE;
        }
        if (cart != -1 && !isCart(cart)) {
            return BAD;
        }
        int rounds = foretold.roundsToRest(now);
        return cart == -1 ? rounds : foretold.day.patience[cart];
    }

    public int thought(int cart, int hour) {
        if (!isCart(cart) || !isHour(hour)) {
            return BAD;
        }
        return foretold.patiencesToGoIn(now, cart, hour);
    }

    public int two(int a, int b, int hour, int what) {
        if (!isCart(a) || !isCart(b) || a == b || !isHour(hour) || !isWithin(what, 0, 1)) {
            return BAD;
        }
        return foretold.whenOfTwo(now, a, b, hour, what == 1);
    }

    public int shares(int n, int k) {
        if (!now.isTold) {
            return STATE;
        }
        if (!isWithin(n, 1, TOLLS) || k < -1) {
            return BAD;
        }
        if (k == -1) {
            return now.holds(n) ? 1 : 0;
        }
        if (k >= n) {
            return NONE;
        }
        return now.greatestShares(n, k + 1) - now.greatestShares(n, k);
    }

    public int size() {
        return now.isTold ? now.cheapestSize() : STATE;
    }

    public int book(int cart, int n) {
        if (!isCart(cart) || !isWithin(n, 1, MOST_DAYS)) {
            return BAD;
        }
        return foretold.timesFirst(now, cart, n);
    }

    public int ford(int cart, int p, int n, int what) {
        if (!isCart(cart) || !isWithin(p, 0, HUNDRED)) {
            return BAD;
        }
        if (!isWithin(n, 0, MOST_FORD_HOURS) || !isWithin(what, 0, 1)) {
            return BAD;
        }
        return foretold.costByFord(now, cart, p, n, what == 0);
    }

    public int goat(int cart, int hour) {
        if (!isCart(cart) || !isHour(hour)) {
            return BAD;
        }
        return foretold.costOfGoat(now, cart, hour);
    }

    public int image(int k) {
        if (!isWithin(k, 0, IMAGES - 1)) {
            return BAD;
        }
        if (!now.isTold) {
            return STATE;
        }
        images[k].become(now);
        return 1;
    }

    public int restore(int k) {
        if (!isWithin(k, 0, IMAGES - 1)) {
            return BAD;
        }
        if (!images[k].isTold) {
            return STATE;
        }
        now.become(images[k]);
        acts.length = 0;
        return 1;
    }

    // ---- asked

    public int kind(int cart) {
        return isCart(cart) ? now.kind[cart] : BAD;
    }

    public int as(int cart, int kind) {
        if (!isCart(cart) || !isWithin(kind, CART, KINDS - 1)) {
            return BAD;
        }
        if (!isOfKind(now.kind[cart], kind)) {
            return found(NO_SUCH_KIND);
        }
        status = 0;
        return cart;
    }

    public int ask(int cart, int what) {
        if (!isCart(cart) || !isWithin(what, 0, 1)) {
            return BAD;
        }
        return asks.begin(now, cart, what == 0 ? SIZE_BODY : MARK_BODY);
    }

    public int trace(int i) {
        return isWithin(i, 0, asks.length - 1) ? asks.numbers[i] : NONE;
    }

    public int count(int what) {
        switch (what) {
            case 0: return rowsThere();
            case 1: return now.carts;
            case 2: return now.hour;
            case 3: return now.cartsGone();
            case 4: return acts.length;
            case 5: return now.paidInAll();
            case 6: return reader.length;
            default: return BAD;
        }
    }

    public int status() {
        return status;
    }

    private int found(int finding) {
        status = finding;
        return FINDINGS - finding;
    }

    private boolean isCart(int cart) {
        return isWithin(cart, 0, now.carts - 1);
    }

    private int rowsThere() {
        int there = 0;
        for (int r = 0; r < ROWS; r++) {
            if (rows[r].isThere) {
                there++;
            }
        }
        return there;
    }

    private static boolean isRow(int row) {
        return isWithin(row, 0, ROWS - 1);
    }

    private static boolean isHour(int hour) {
        return isWithin(hour, 0, LAST_HOUR);
    }

    private static boolean isWithin(int v, int least, int most) {
        return v >= least && v <= most;
    }

    private static boolean isOfKind(int kind, int wanted) {
        int k = kind;
        for (int up = 0; up < KINDS && k != wanted && isWithin(k, 0, KINDS - 1); up++) {
            k = NEAREST[k];
        }
        return k == wanted;
    }

    /** The BODY that begins: the one told for the nearest KIND, else the one that is lent. */
    private static int bodyFor(int[] bodies, int kind) {
        int k = kind;
        for (int up = 0; up < KINDS && isWithin(k, 0, KINDS - 1); up++) {
            if (bodies[k] != 0) {
                return bodies[k];
            }
            k = NEAREST[k];
        }
        return bodies[CART];
    }

    static final class Row {
        final int[] items = new int[MOST_ITEMS];
        boolean isThere;
        int lane;
        int length;

        void begin(int newLane, int n) {
            Arrays.fill(items, 0);
            isThere = true;
            lane = newLane;
            length = n;
        }

        /** Whether n places from i on are there; told so that no sum can wrap around. */
        boolean hasPlaces(int i, int n) {
            return i >= 0 && n >= 0 && i <= length && n <= length - i;
        }

        int lowestBits(int v) {
            if (lane == BYTES) {
                return (byte) v;
            }
            return lane == SHORTS ? (short) v : v;
        }
    }

    /** The ACTS that can be undone, the latest one last. */
    static final class Acts {
        /** Whose PATIENCE became another one; NOBODY: an HOUR went by. */
        final int[] whose = new int[MOST_ACTS];
        final int[] before = new int[MOST_ACTS];
        int length;

        void keep(int cart, int patience) {
            if (length == MOST_ACTS) {
                length--;
                System.arraycopy(whose, 1, whose, 0, length);
                System.arraycopy(before, 1, before, 0, length);
            }
            whose[length] = cart;
            before[length] = patience;
            length++;
        }
    }

    /** THE TAPE, and how a PASS is read from it. */
    static final class Reader {
        static final int END = 0, NAME = 1, NUMBER = 2, SIGN = 3, NO_TOKEN = 4;
        static final int MISPLACED = 1, NOT_AS_TOLD = 2, ONE_TOO_MANY = 3;

        final byte[] tape = new byte[MOST_BYTES];
        int length;
        /** What is read comes here first: a text with a FAULT must leave the PASS as it is. */
        final Pass draft = new Pass();
        /** The TOKEN looked at: its sort, its first byte, the byte behind it, its number. */
        int token;
        int start;
        int end;
        int value;
        int fault;

        /** False: there is a FAULT, in the TOKEN looked at. */
        boolean readPass() {
            draft.carts = 0;
            draft.isTold = true;
            end = 0;
            fault = 0;
            if (!readToll()) {
                return false;
            }
            // One turn more than there is room for carts: the cart too many ends it.
            for (int turn = 0; turn <= MOST_CARTS; turn++) {
                step();
                if (token == END) {
                    draft.beginAnew();
                    return true;
                }
                if (!readCart()) {
                    return false;
                }
            }
            return false;
        }

        boolean readToll() {
            step();
            if (!isWord("toll")) {
                return fail(MISPLACED);
            }
            for (int n = 0; n < TOLLS; n++) {
                if (!readNumber(MOST_TOLL)) {
                    return false;
                }
                draft.toll[n] = value;
            }
            return readSign();
        }

        /** The first TOKEN of the cart is the one looked at. */
        boolean readCart() {
            if (!isWord("cart")) {
                return fail(MISPLACED);
            }
            int c = draft.carts;
            if (c >= MOST_CARTS) {
                return fail(ONE_TOO_MANY);
            }
            step();
            draft.kind[c] = kindNamed();
            if (draft.kind[c] == CART) {
                return fail(MISPLACED);
            }
            if (!readNumber(LAST_HOUR)) {
                return false;
            }
            draft.come[c] = value;
            if (!readNumber(MOST_HASTE)) {
                return false;
            }
            draft.haste[c] = value;
            if (!readNumber(MOST_PATIENCE)) {
                return false;
            }
            draft.patience[c] = value;
            draft.carts++;
            return readSign();
        }

        /** CART: no KIND is named so. */
        int kindNamed() {
            if (isWord("wait")) {
                return WAIT;
            }
            if (isWord("form")) {
                return FORM;
            }
            if (isWord("back")) {
                return BACK;
            }
            if (isWord("go")) {
                return GO;
            }
            return isWord("blind") ? BLIND : CART;
        }

        boolean readNumber(int most) {
            step();
            if (token != NUMBER) {
                return fail(MISPLACED);
            }
            return value <= most || fail(NOT_AS_TOLD);
        }

        boolean readSign() {
            step();
            return token == SIGN || fail(MISPLACED);
        }

        boolean fail(int number) {
            fault = number;
            return false;
        }

        /** The next TOKEN becomes the one looked at. */
        void step() {
            start = end;
            while (start < length && (tape[start] == ' ' || tape[start] == '\n')) {
                start++;
            }
            end = start;
            if (start >= length) {
                token = END;
            } else if (isLetter(start)) {
                stepName();
            } else if (isFigure(start)) {
                stepNumber();
            } else {
                end++;
                token = tape[start] == ';' ? SIGN : NO_TOKEN;
            }
        }

        void stepName() {
            while (end < length && isLetter(end)) {
                end++;
            }
            token = NAME;
        }

        void stepNumber() {
            value = 0;
            while (end < length && isFigure(end)) {
                // Further figures make it no NUMBER: what they are worth is not wanted.
                if (end - start < MOST_FIGURES) {
                    value = 10 * value + tape[end] - '0';
                }
                end++;
            }
            token = end - start <= MOST_FIGURES ? NUMBER : NO_TOKEN;
        }

        boolean isLetter(int at) {
            return tape[at] >= 'a' && tape[at] <= 'z';
        }

        boolean isFigure(int at) {
            return tape[at] >= '0' && tape[at] <= '9';
        }

        boolean isWord(String word) {
            if (token != NAME || end - start != word.length()) {
                return false;
            }
            for (int i = 0; i < word.length(); i++) {
                if (tape[start + i] != word.charAt(i)) {
                    return false;
                }
            }
            return true;
        }
    }

    /** A toll and its CARTS, and how far their HOURS have gone by. */
    static final class Pass {
        /** The goat needs a place beside the CARTS that are told. */
        static final int PLACES = MOST_CARTS + 1;

        final int[] toll = new int[TOLLS];
        final int[] kind = new int[PLACES];
        final int[] come = new int[PLACES];
        final int[] haste = new int[PLACES];
        final int[] patience = new int[PLACES];
        /** The HOUR in which a CART went; NONE: not yet. */
        final int[] went = new int[PLACES];
        final int[] paid = new int[PLACES];
        /** How often a CART was FOREMOST on earlier DAYS: all 0, but in a BOOK. */
        final int[] timesFirst = new int[PLACES];
        /** Who PAID in an HOUR: told apart from paid, for a toll may be 0. */
        final int[] payer = new int[HOURS];
        boolean isTold;
        int carts;
        /** The HOUR that is to come. */
        int hour;

        void become(Pass other) {
            copyAll(other.toll, toll);
            copyAll(other.kind, kind);
            copyAll(other.come, come);
            copyAll(other.haste, haste);
            copyAll(other.patience, patience);
            copyAll(other.went, went);
            copyAll(other.paid, paid);
            copyAll(other.timesFirst, timesFirst);
            copyAll(other.payer, payer);
            isTold = other.isTold;
            carts = other.carts;
            hour = other.hour;
        }

        static void copyAll(int[] from, int[] to) {
            System.arraycopy(from, 0, to, 0, Math.min(from.length, to.length));
        }

        void beginAnew() {
            Arrays.fill(went, NONE);
            Arrays.fill(paid, 0);
            Arrays.fill(payer, NOBODY);
            hour = 0;
        }

        /** A DAY. It ends as soon as all have GONE: no later HOUR has a TRAIN. */
        void runDay() {
            beginAnew();
            int all = (1 << carts) - 1;
            int gone = 0;
            for (int h = 0; h < HOURS && gone != all; h++) {
                gone |= goBy();
            }
        }

        /** The HOUR that is to come goes by: its TRAIN. */
        int goBy() {
            if (!isHour(hour)) {
                return 0;
            }
            int standing = standing();
            int ready = readyOf(standing);
            int train = 0;
            if (ready != 0) {
                train = ready | followersOf(standing);
                int first = foremostOf(ready);
                payer[hour] = first;
                paid[first] = tollFor(Integer.bitCount(train));
                markGone(train);
            }
            hour++;
            return train;
        }

        /** The latest HOUR that went by is undone. */
        void goBack() {
            if (hour == 0) {
                return;
            }
            hour--;
            payer[hour] = NOBODY;
            for (int c = 0; c < carts; c++) {
                if (went[c] == hour) {
                    went[c] = NONE;
                    paid[c] = 0;
                }
            }
        }

        int standing() {
            int standing = 0;
            for (int c = 0; c < carts; c++) {
                if (come[c] <= hour && went[c] == NONE) {
                    standing |= 1 << c;
                }
            }
            return standing;
        }

        int readyOf(int standing) {
            if (hour == LAST_HOUR) {
                return standing;
            }
            boolean areEnough = Integer.bitCount(standing) >= FORMING;
            int ready = 0;
            for (int c = 0; c < carts; c++) {
                if ((standing >> c & 1) != 0 && isReady(c, areEnough)) {
                    ready |= 1 << c;
                }
            }
            return ready;
        }

        /** Of a CART that STANDS, ahead of the last HOUR. */
        boolean isReady(int c, boolean areEnough) {
            boolean isOverdue = hour >= come[c] + patience[c];
            switch (kind[c]) {
                case BLIND: return true;
                case BACK: return false;
                case FORM: return isOverdue || areEnough;
                default: return isOverdue;
            }
        }

        /** Those that go with a TRAIN even if they are not READY. */
        int followersOf(int standing) {
            int followers = 0;
            for (int c = 0; c < carts; c++) {
                if (kind[c] == WAIT || kind[c] == FORM || kind[c] == BACK) {
                    followers |= 1 << c;
                }
            }
            return followers & standing;
        }

        int foremostOf(int ready) {
            int first = 0;
            boolean isAny = false;
            for (int c = 0; c < carts; c++) {
                if ((ready >> c & 1) != 0 && (!isAny || isAhead(c, first))) {
                    first = c;
                    isAny = true;
                }
            }
            return first;
        }

        /** Whether c takes the place of the lesser number d as FOREMOST. */
        boolean isAhead(int c, int d) {
            if ((kind[c] == BACK) != (kind[d] == BACK)) {
                return kind[d] == BACK;
            }
            if (timesFirst[c] != timesFirst[d]) {
                return timesFirst[c] < timesFirst[d];
            }
            return come[c] < come[d];
        }

        void markGone(int train) {
            for (int c = 0; c < carts; c++) {
                if ((train >> c & 1) != 0) {
                    went[c] = hour;
                }
            }
        }

        int tollFor(int n) {
            return n < 1 ? 0 : toll[Math.min(n, TOLLS) - 1];
        }

        int costOf(int c) {
            return went[c] == NONE ? NONE : haste[c] * (went[c] - come[c]) + paid[c];
        }

        int cartsGone() {
            int gone = 0;
            for (int c = 0; c < carts; c++) {
                if (went[c] != NONE) {
                    gone++;
                }
            }
            return gone;
        }

        int paidInAll() {
            int sum = 0;
            for (int c = 0; c < carts; c++) {
                sum += paid[c];
            }
            return sum;
        }

        /** What the k greatest SHARES of a TRAIN of n are together. */
        int greatestShares(int n, int k) {
            if (n < 1) {
                return 0;
            }
            return k * (tollFor(n) / n) + Math.min(k, tollFor(n) % n);
        }

        boolean holds(int n) {
            for (int k = 1; k < n; k++) {
                if (greatestShares(n, k) > tollFor(k)) {
                    return false;
                }
            }
            return true;
        }

        int cheapestSize() {
            int cheapest = 1;
            for (int n = 2; n <= TOLLS; n++) {
                // The toll by n is not cut here: so both sides are taken times both sizes.
                if (tollFor(n) * cheapest < tollFor(cheapest) * n) {
                    cheapest = n;
                }
            }
            return cheapest;
        }
    }

    /** What is FORETOLD: on a PASS of its own, so that nothing changes. */
    static final class Foretold {
        final Pass day = new Pass();

        Pass dayOf(Pass pass) {
            day.become(pass);
            day.runDay();
            return day;
        }

        Pass dayWithBest(Pass pass, int cart) {
            day.become(pass);
            takeBest(cart);
            day.runDay();
            return day;
        }

        /** The CART takes its BEST, others as they are: whether its PATIENCE changes. */
        boolean takeBest(int cart) {
            int before = day.patience[cart];
            int best = 0;
            int least = ABOVE_ANY_COST;
            for (int p = 0; p <= MOST_PATIENCE; p++) {
                day.patience[cart] = p;
                day.runDay();
                int cost = day.costOf(cart);
                if (cost < least) {
                    least = cost;
                    best = p;
                }
            }
            day.patience[cart] = best;
            return best != before;
        }

        /** Behind it the CARTS of the DAY have the PATIENCES that they came to. */
        int roundsToRest(Pass pass) {
            day.become(pass);
            for (int round = 1; round <= MOST_ROUNDS; round++) {
                boolean isChanged = false;
                for (int c = 0; c < day.carts; c++) {
                    if (takeBest(c)) {
                        isChanged = true;
                    }
                }
                if (!isChanged) {
                    return round;
                }
            }
            return NONE;
        }

        int patiencesToGoIn(Pass pass, int cart, int hour) {
            day.become(pass);
            int patiences = 0;
            for (int p = 0; p <= MOST_PATIENCE; p++) {
                day.patience[cart] = p;
                day.runDay();
                if (day.went[cart] == hour) {
                    patiences |= 1 << p;
                }
            }
            return patiences;
        }

        /** From the last HOUR back: what it costs a, b from that HOUR on, when and who goes. */
        int whenOfTwo(Pass pass, int a, int b, int from, boolean isWho) {
            int toll = pass.tollFor(2);
            int costA = toll;
            int costB = 0;
            int when = LAST_HOUR;
            int who = a;
            for (int h = LAST_HOUR - 1; h >= from; h--) {
                int waitA = pass.haste[a] + costA;
                int waitB = pass.haste[b] + costB;
                boolean wouldB = toll <= waitB;
                boolean goesA = toll <= (wouldB ? 0 : waitA);
                if (goesA || wouldB) {
                    when = h;
                    who = goesA ? a : b;
                    costA = goesA ? toll : 0;
                    costB = goesA ? 0 : toll;
                } else {
                    costA = waitA;
                    costB = waitB;
                }
            }
            return isWho ? who : when;
        }

        int timesFirst(Pass pass, int cart, int days) {
            day.become(pass);
            for (int d = 0; d < days; d++) {
                day.runDay();
                for (int h = 0; h < HOURS; h++) {
                    if (day.payer[h] != NOBODY) {
                        day.timesFirst[day.payer[h]]++;
                    }
                }
            }
            return day.timesFirst[cart];
        }

        /** The mean is kept as hundredths of hundredths, one step for each HOUR that is left. */
        int costByFord(Pass pass, int cart, int p, int hours, boolean isAbove) {
            int above = pass.tollFor(1);
            int below = 1;
            for (int h = 0; h < hours; h++) {
                below *= HUNDRED;
                int wait = pass.haste[cart] * below + (HUNDRED - p) * above;
                above = Math.min(wait, pass.tollFor(1) * below);
            }
            int part = commonPart(above, below);
            return (isAbove ? above : below) / part;
        }

        /** The greatest number that divides both; never 0, so that it may divide. */
        static int commonPart(int a, int b) {
            int greater = a;
            int lesser = b;
            // Each two steps halve the numbers: 64 are enough for any int.
            for (int step = 0; step < 64 && lesser != 0; step++) {
                int left = greater % lesser;
                greater = lesser;
                lesser = left;
            }
            return greater == 0 ? 1 : greater;
        }

        int costOfGoat(Pass pass, int cart, int hour) {
            int without = dayOf(pass).costOf(cart);
            int goat = day.carts;
            if (goat >= Pass.PLACES) {
                return NONE;
            }
            day.kind[goat] = BLIND;
            day.come[goat] = hour;
            day.haste[goat] = 0;
            day.patience[goat] = 0;
            day.carts++;
            day.runDay();
            return day.costOf(cart) + day.paid[goat] - without;
        }
    }

    /** ASKS, and THE TRACE of their BODIES. */
    static final class Asks {
        final int[] numbers = new int[MOST_TRACE];
        int length;

        int begin(Pass pass, int cart, int[] bodies) {
            length = 0;
            return answer(pass, cart, bodyFor(bodies, pass.kind[cart]), 0);
        }

        /** What a BODY gives; SIZE and MARK within are asked of the same CART anew. */
        private int answer(Pass pass, int cart, int body, int depth) {
            if (depth > MOST_DEPTH) {
                return 0;
            }
            if (length < MOST_TRACE) {
                numbers[length] = body;
                length++;
            }
            int deeper = depth + 1;
            int kind = pass.kind[cart];
            switch (body) {
                case 10: return pass.haste[cart];
                case 11: return answer(pass, cart, 10, deeper)
                        + answer(pass, cart, bodyFor(MARK_BODY, kind), deeper);
                case 12: return 0 - answer(pass, cart, 11, deeper);
                case 13: return answer(pass, cart, 10, deeper) - 100;
                case 14: return 2 * answer(pass, cart, 13, deeper);
                case 20: return cart;
                case 21: return answer(pass, cart, 20, deeper) + pass.come[cart];
                case 22: return answer(pass, cart, 21, deeper) - 1000;
                case 23: return answer(pass, cart, 20, deeper)
                        - answer(pass, cart, bodyFor(SIZE_BODY, kind), deeper);
                case 24: return 2 * answer(pass, cart, 21, deeper);
                default: return 0;
            }
        }
    }
}
