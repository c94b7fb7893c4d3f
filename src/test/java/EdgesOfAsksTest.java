import java.io.IOException;

/** Promises 26 to 31: what the document says of the edges of kind, as, ask, trace, count, status. */
public final class EdgesOfAsksTest {
    private static final String TEN = "10 11 12 13 14 15";

    private final Edges e = new Edges("EdgesOfAsksTest");

    private EdgesOfAsksTest() throws IOException {
    }

    public static void main(String[] args) throws IOException {
        EdgesOfAsksTest t = new EdgesOfAsksTest();
        t.kind();
        t.as();
        t.askAndItsRefusals();
        t.sizes();
        t.marks();
        t.trace();
        t.count();
        t.countAtItsEdges();
        t.status();
        t.statusOfWhichCalls();
        t.e.end(26, 27, 28, 29, 30, 31);
    }

    /** Carts 0 to 4 are of the KINDS 1 to 5. */
    private static FirstCart allSorts() {
        return Due.with(TEN, "wait 5 9 0", "form 3 11 0", "back 8 4 0", "go 2 6 0", "blind 0 7 0");
    }

    private void kind() {
        e.edge(26, "The KIND of a CART, as told (1 to 5). BAD.");
        FirstCart x = allSorts();
        e.on(x, "kind(0) = 1", "kind(1) = 2", "kind(2) = 3", "kind(3) = 4", "kind(4) = 5", "kind(5) = BAD", "kind(-1) = BAD",
            "kind(MIN) = BAD", "kind(MAX) = BAD", "12 times hour()", "kind(0) = 1", "kind(4) = 5");
        e.on(new FirstCart(), "kind(0) = BAD");
        e.on(Due.with(TEN), "kind(0) = BAD");
        e.on(Due.with(TEN, "go 0 0 0", "go 0 0 0", "go 0 0 0", "go 0 0 0", "go 0 0 0", "back 0 0 0"), "kind(5) = 3",
            "kind(6) = BAD");
    }

    private void as() {
        e.edge(27, "0 CART; 1 WAIT, a CART; 2 FORM, a WAIT; 3 BACK, a WAIT; 4 GO, a CART; 5 BLIND, a GO");
        FirstCart x = allSorts();
        String[] are = {"110000", "111000", "110100", "100010", "100011"};
        for (int c = 0; c < 5; c++) {
            for (int k = 0; k < 6; k++) {
                boolean is = are[c].charAt(k) == '1';
                e.on(x, "as(" + c + ", " + k + ") = " + (is ? "" + c : "KIND"), "status() = " + (is ? 0 : 3));
            }
        }
        e.edge(27, "A CART is taken as one of a KIND (0 .. 5): the CART's number. BAD; KIND: it is no such one.");
        e.on(x, "as(0, 0) = 0", "as(4, 5) = 4", "as(0, 6) = BAD", "as(0, -1) = BAD", "as(0, MIN) = BAD", "as(0, MAX) = BAD",
            "as(5, 0) = BAD", "as(-1, 0) = BAD", "as(MIN, 0) = BAD", "as(MAX, 0) = BAD", "as(5, 5) = BAD", "status() = 0",
            "as(4, 1) = KIND", "as(5, 1) = BAD", "as(4, 6) = BAD", "status() = 3");
        e.on(new FirstCart(), "as(0, 0) = BAD", "status() = 0");
        e.on(Due.with(TEN), "as(0, 0) = BAD");
        e.edge(27, "3 KIND (a CART that is not that)");
        e.on(x, "as(0, 4) = KIND", "status() = 3", "kind(0) = 1", "as(0, 1) = 0", "status() = 0", "ask(0, 1) = 5");
    }

    private void askAndItsRefusals() {
        e.edge(28, "An ASK (0, 1) of a CART. BAD.");
        FirstCart x = allSorts();
        e.on(x, "ask(0, 2) = BAD", "ask(0, -1) = BAD", "ask(0, MIN) = BAD", "ask(0, MAX) = BAD", "ask(5, 0) = BAD",
            "ask(-1, 0) = BAD", "ask(MIN, 0) = BAD", "ask(MAX, 0) = BAD", "trace(0) = NONE", "ask(3, 0) = -94");
        e.on(new FirstCart(), "ask(0, 0) = BAD", "trace(0) = NONE");
        e.on(Due.with(TEN), "ask(0, 0) = BAD");
        e.edge(28, "THE TRACE is empty ahead of it (where that is refused it stays).");
        e.on(x, "ask(1, 0) = -19", "trace(5) = 20", "ask(5, 0) = BAD", "ask(-1, 1) = BAD", "ask(0, 2) = BAD", "ask(0, -1) = BAD",
            "trace(0) = 12", "trace(5) = 20", "trace(6) = NONE", "ask(0, 1) = 5", "trace(0) = 21", "trace(1) = 20",
            "trace(2) = NONE", "trace(5) = NONE");
    }

    private void asked(FirstCart x, int cart, int what, int answer, int... bodies) {
        e.on(x, "ask(" + cart + ", " + what + ") = " + answer);
        for (int i = 0; i < bodies.length; i++) {
            e.on(x, "trace(" + i + ") = " + bodies[i]);
        }
        e.on(x, "trace(" + bodies.length + ") = NONE");
    }

    private void sizes() {
        FirstCart x = allSorts();
        e.edge(28, "10 lent to all CARTS: HASTE. 11 of WAITS: what 10 gives, and MARK.");
        asked(x, 0, 0, 14, 11, 10, 21, 20);
        // One that turns back has no SIZE of its own: that of the nearest KIND that it is, too; its MARK is its own.
        e.edge(28, "the BODY told for the KIND begins, else that of the nearest KIND that it is, too, else the one that is lent");
        asked(x, 2, 0, -986, 11, 10, 22, 21, 20);
        e.edge(28, "12 of FORMS: 0 less what 11 gives.");
        asked(x, 1, 0, -19, 12, 11, 10, 24, 21, 20);
        e.edge(28, "13 of GOES: what 10 gives, less 100. 14 of BLIND ones: twice what 13 gives (asked once).");
        asked(x, 3, 0, -94, 13, 10);
        asked(x, 4, 0, -186, 14, 13, 10);
        FirstCart edges = Due.with(TEN, "blind 0 0 0", "blind 0 20 0", "form 11 20 11");
        asked(edges, 0, 0, -200, 14, 13, 10);
        asked(edges, 1, 0, -160, 14, 13, 10);
        asked(edges, 2, 0, -46, 12, 11, 10, 24, 21, 20);
    }

    private void marks() {
        FirstCart x = allSorts();
        e.edge(28, "1 MARK: 20 lent to all CARTS: its number. 21 of WAITS: what 20 gives, and COME.");
        asked(x, 0, 1, 5, 21, 20);
        e.edge(28, "22 of BACKS: what 21 gives, less 1000.");
        asked(x, 2, 1, -990, 22, 21, 20);
        e.edge(28, "23 of GOES: what 20 gives, less SIZE.");
        asked(x, 3, 1, 97, 23, 20, 13, 10);
        // A blind one has no MARK of its own, but the SIZE that is asked within is.
        e.edge(28, "SIZE, MARK within others are asked of the same CART anew");
        asked(x, 4, 1, 190, 23, 20, 14, 13, 10);
        asked(x, 1, 0, -19, 12, 11, 10, 24, 21, 20);
        e.edge(28, "24 of FORMS: twice what 21 gives (asked once).");
        asked(x, 1, 1, 8, 24, 21, 20);
    }

    private void trace() {
        e.edge(29, "Number i of THE TRACE; NONE.");
        FirstCart x = allSorts();
        e.on(x, "trace(0) = NONE", "trace(-1) = NONE", "trace(15) = NONE", "ask(1, 0)", "trace(0) = 12", "trace(5) = 20",
            "trace(6) = NONE", "trace(-1) = NONE", "trace(15) = NONE", "trace(16) = NONE", "trace(17) = NONE",
            "trace(MIN) = NONE", "trace(MAX) = NONE");
        e.on(new FirstCart(), "trace(0) = NONE", "trace(-1) = NONE");
        e.edge(29, "each of which leaves its number in THE TRACE as it begins (the first 16)");
        // As it begins: the outer one ahead of those within; the longest there is has six.
        e.on(x, "ask(1, 0)", "trace(0) = 12", "trace(1) = 11", "trace(2) = 10", "trace(3) = 24", "trace(4) = 21",
            "trace(5) = 20", "trace(6) = NONE");
        e.edge(29, "THE TRACE is empty ahead of it");
        // Other calls leave it: an ask alone empties it.
        e.on(x, "ask(3, 0)", "kind(0)", "as(0, 1)", "hour()", "undo()", "image(0)", "restore(0)", "day(0, 0)", "trace(0) = 13",
            "trace(1) = 10", "trace(2) = NONE");
        e.due("pass()", Due.pass(x, "toll 1 1 1 1 1 1;"), 0);
        e.on(x, "trace(0) = 13", "ask(0, 0) = BAD", "trace(1) = 10");
    }

    private void count() {
        e.edge(30, "6 bytes on the tape. BAD.");
        e.on(new FirstCart(), "count(7) = BAD", "count(-1) = BAD", "count(MIN) = BAD", "count(MAX) = BAD", "count(0) = 0",
            "count(1) = 0", "count(2) = 0", "count(3) = 0", "count(4) = 0", "count(5) = 0", "count(6) = 0",
            "feed(0, 3)", "count(6) = 3", "feed(0, 9)", "count(6) = 3", "pass()", "count(6) = 0");
        e.edge(30, "How many: 0 ROWS");
        FirstCart x = new FirstCart();
        for (int r = 7; r >= 0; r--) {
            e.on(x, "row(" + r + ", 0, 0)", "count(0) = " + (8 - r));
        }
        e.on(x, "row(0, 1, 5)", "row(8, 0, 0)", "row(0, 0, -1)", "count(0) = 8", "drop(7)", "drop(7)", "count(0) = 7");
        e.edge(30, "1 CARTS, 2 HOURS gone, 3 CARTS that have GONE, 4 ACTS that can be undone, 5 what was PAID in all");
        x = Due.with(TEN, "wait 0 0 1", "go 0 0 2", "back 1 0 0");
        e.on(x, "hour() = 0", "hour() = 5", "count(1) = 3", "count(2) = 2", "count(3) = 2", "count(4) = 2", "count(5) = 11",
            "hour() = 2", "count(3) = 3", "count(5) = 21", "waits(0, 0) = STATE", "count(4) = 3", "undo()", "count(1) = 3",
            "count(2) = 2", "count(3) = 2", "count(4) = 2", "count(5) = 11", "day(0, 0)", "book(0, 30)", "goat(0, 0)",
            "count(1) = 3", "count(5) = 11");
    }

    private void countAtItsEdges() {
        e.edge(30, "4 ACTS that can be undone");
        FirstCart x = Due.with(TEN, "wait 0 0 1");
        e.on(x, "23 times waits(0, 3)", "count(4) = 23", "waits(0, 3)", "count(4) = 24", "3 times waits(0, 3)", "count(4) = 24",
            "hour()", "count(4) = 24", "undo() = 23", "count(4) = 23", "24 times undo()", "count(4) = 0");
        e.edge(30, "2 HOURS gone");
        x = Due.with(TEN);
        e.on(x, "12 times hour()", "count(2) = 12", "hour() = FULL", "count(2) = 12", "count(4) = 12", "12 times undo()",
            "count(2) = 0");
        e.edge(30, "5 what was PAID in all");
        x = Due.with("99 99 99 99 99 99", "go 0 0 0", "go 1 0 0", "go 2 0 0", "go 3 0 0", "go 4 0 0", "go 11 0 0");
        e.on(x, "12 times hour()", "count(5) = 594", "count(3) = 6", "undo()", "count(5) = 495", "count(3) = 5");
    }

    private void status() {
        e.edge(31, "the number of its FINDING; 0: it had none, or there was none");
        e.on(new FirstCart(), "status() = 0", "drop(0) = NULL", "status() = 1", "row(0, 0, 1)", "status() = 0",
            "set(0, 1, 0) = PLACE", "status() = 2", "set(0, 0, 0)", "status() = 0", "row(0, 0, -1) = SIZE", "status() = 4",
            "row(1, 1, 1)", "status() = 0", "copy(0, 0, 1, 0, 1) = STORE", "status() = 5", "copy(0, 0, 0, 0, 1)",
            "status() = 0", "drop(7) = NULL", "status() = 1", "drop(0)", "status() = 0");
        FirstCart x = Due.with(TEN, "go 0 0 0");
        e.on(x, "as(0, 1) = KIND", "status() = 3", "as(0, 4) = 0", "status() = 0", "judge(0, 0) = NULL", "status() = 1",
            "row(0, 0, 12)", "judge(0, 1) = PLACE", "status() = 2", "judge(0, 0) = 1", "status() = 0", "drop(7)",
            "status() = 1");
        for (int h = 1; h < 12; h++) {
            e.on(x, "set(0, " + h + ", -1)");
        }
        e.on(x, "drop(7)", "status() = 1", "judge(0, 0) = NONE", "status() = 0");
    }

    private void statusOfWhichCalls() {
        e.edge(31, "that was not BAD, STATE, FULL");
        e.on(new FirstCart(), "drop(0) = NULL", "row(8, 0, 0) = BAD", "row(0, 0, 41) = BAD", "set(8, 0, 0) = BAD",
            "copy(8, 0, 0, 0, 0) = BAD", "drop(8) = BAD", "judge(0, 0) = STATE", "judge(8, 0) = STATE", "as(0, 0) = BAD",
            "status() = 1");
        FirstCart x = Due.with(TEN, "go 0 0 0");
        e.on(x, "as(0, 5) = KIND", "judge(8, 0) = BAD", "as(0, 6) = BAD", "as(1, 0) = BAD", "status() = 3", "row(0, 0, 12)",
            "set(0, 0, 9)", "as(0, 5) = KIND", "judge(0, 0) = BAD", "status() = 3");
        e.edge(31, "Of the latest call with a ROW, or as()");
        // Others, refused or not, leave it.
        String[] others = {"feed(0, 1)", "feed(0, 9)", "pass()", "fault()", "hour()", "waits(0, 0)", "undo()", "cart(0, 0)",
            "cart(9, 9)", "day(0, 0)", "best(0, 0)", "rest(0)", "rest(-1)", "thought(0, 0)", "two(0, 0, 0, 0)",
            "shares(1, 0)", "shares(1, 9)", "size()", "book(0, 1)", "ford(0, 0, 0, 0)", "goat(0, 0)", "image(0)",
            "image(2)", "restore(0)", "restore(1)", "kind(0)", "ask(0, 0)", "trace(0)", "trace(9)", "count(0)",
            "count(9)", "status()"};
        for (String other : others) {
            e.on(x, "as(0, 5) = KIND", other, "status() = 3");
        }
        for (String other : others) {
            e.on(x, "as(0, 0) = 0", other, "status() = 0");
        }
    }
}
