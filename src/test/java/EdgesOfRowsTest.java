import java.io.IOException;

/** Promises 1 to 5: what the document says of the edges of a new object, row, set, copy, drop. */
public final class EdgesOfRowsTest {
    private final Edges e = new Edges("EdgesOfRowsTest");

    private EdgesOfRowsTest() throws IOException {
    }

    public static void main(String[] args) throws IOException {
        EdgesOfRowsTest t = new EdgesOfRowsTest();
        t.newObject();
        t.rowAndItsNumbers();
        t.rowInPlaceOfAnother();
        t.setAndItsPlaces();
        t.setAndItsBits();
        t.copyAndItsRows();
        t.copyAndItsPlaces();
        t.copyOverItself();
        t.drop();
        t.e.end(1, 2, 3, 4, 5);
    }

    /** In hour 0 cart 0 pays, in hour 1 cart 1, .. in hour 5 cart 5: so judge() tells ITEMS. */
    private static FirstCart sixPayers() {
        return Due.with("1 1 1 1 1 1", "blind 0 0 0", "blind 1 0 0", "blind 2 0 0",
            "blind 3 0 0", "blind 4 0 0", "blind 5 0 0");
    }

    private void newObject() {
        e.edge(1, "No PASS.");
        e.on(new FirstCart(), "hour() = STATE", "size() = STATE", "rest(-1) = STATE", "shares(1, 0) = STATE",
            "image(0) = STATE", "image(1) = STATE", "judge(0, 0) = STATE", "kind(0) = BAD", "cart(0, 0) = BAD",
            "count(1) = 0", "count(2) = 0", "count(3) = 0", "count(5) = 0");
        e.edge(1, "A PASS that is read stands in place of the one before (none at first)");
        FirstCart x = new FirstCart();
        e.on(x, "hour() = STATE");
        e.due("pass()", Due.pass(x, "toll 1 2 3 4 5 6;"), 0);
        e.on(x, "hour() = 0");
        e.edge(1, "ROWS 0 .. 7 are missing (at first)");
        x = new FirstCart();
        e.on(x, "count(0) = 0");
        for (int r = 0; r < 8; r++) {
            e.on(x, "drop(" + r + ") = NULL", "set(" + r + ", 0, 1) = NULL");
        }
        e.edge(1, "there is no such thing");
        e.on(new FirstCart(), "waits(0, 0) = BAD", "day(0, 0) = BAD", "best(0, 0) = BAD", "thought(0, 0) = BAD",
            "two(0, 1, 0, 0) = BAD", "book(0, 1) = BAD", "ford(0, 0, 0, 0) = BAD", "goat(0, 0) = BAD",
            "as(0, 0) = BAD", "ask(0, 0) = BAD");
    }

    private void rowAndItsNumbers() {
        e.edge(2, "ROWS 0 .. 7");
        e.on(new FirstCart(), "row(0, 0, 1) = 1", "row(7, 0, 1) = 1", "count(0) = 2", "row(-1, 0, 1) = BAD",
            "row(8, 0, 1) = BAD", "row(MIN, 0, 1) = BAD", "row(MAX, 0, 1) = BAD", "count(0) = 2");
        e.edge(2, "a LANE (0 bytes, 1 shorts, 2 ints)");
        e.on(new FirstCart(), "row(0, 0, 1) = 1", "row(1, 1, 1) = 1", "row(2, 2, 1) = 1", "row(3, 3, 1) = BAD",
            "row(3, -1, 1) = BAD", "row(3, MIN, 1) = BAD", "row(3, MAX, 1) = BAD", "count(0) = 3",
            "set(0, 0, 98304) = 0", "set(1, 0, 98304) = -32768", "set(2, 0, 98304) = 98304");
        e.edge(2, "0 to 40 ITEMS");
        e.on(new FirstCart(), "row(0, 0, 40) = 40", "set(0, 39, 1) = 1", "set(0, 40, 1) = PLACE",
            "row(1, 2, 0) = 0", "count(0) = 2", "set(1, 0, 1) = PLACE");
        e.edge(2, "n above 40");
        e.on(new FirstCart(), "row(0, 0, 41) = BAD", "row(0, 0, MAX) = BAD", "count(0) = 0", "status() = 0");
        e.edge(2, "4 SIZE (fewer than none)");
        e.on(new FirstCart(), "row(0, 0, -1) = SIZE", "status() = 4", "count(0) = 0", "row(0, 0, 0) = 0",
            "status() = 0", "row(1, 2, MIN) = SIZE", "status() = 4", "count(0) = 1");
        e.edge(2, "BAD: ROW, LANE, n above 40; SIZE.");
        e.on(new FirstCart(), "row(8, 0, -1) = BAD", "row(-1, 0, -1) = BAD", "row(0, 3, -1) = BAD",
            "row(0, -1, MIN) = BAD", "status() = 0");
    }

    private void rowInPlaceOfAnother() {
        e.edge(2, "in place of what is there");
        e.on(new FirstCart(), "row(3, 0, 5) = 5", "row(3, 1, 2) = 2", "count(0) = 1", "set(3, 1, 128) = 128",
            "set(3, 2, 0) = PLACE", "row(3, 2, 9) = 9", "set(3, 8, 65536) = 65536", "drop(3) = 9");
        e.edge(2, "ITEMS, 0 at first");
        FirstCart x = Due.with("1 1 1 1 1 1", "blind 0 0 0");
        e.on(x, "row(0, 0, 40)");
        // An ITEM of 0 in HOUR 0 is right, the next one wrong: so it is with all that are 0.
        for (int i = 0; i <= 28; i++) {
            e.on(x, "judge(0, " + i + ") = 1");
        }
        for (int i = 0; i < 40; i++) {
            e.on(x, "set(0, " + i + ", -1) = -1");
        }
        e.on(x, "judge(0, 0) = 0", "row(0, 0, 40) = 40", "judge(0, 0) = 1", "judge(0, 14) = 1", "judge(0, 28) = 1",
            "set(0, 0, -1)", "drop(0) = 40", "row(0, 0, 12) = 12", "judge(0, 0) = 1");
        e.edge(2, "What is refused, or found, changes nothing but status().");
        x = sixPayers();
        e.on(x, "row(0, 0, 12)");
        fillAsPaid(x, 0);
        e.on(x, "judge(0, 0) = NONE", "row(0, 1, -1) = SIZE", "status() = 4", "row(0, 1, 41) = BAD",
            "row(0, 3, 1) = BAD", "row(8, 0, 1) = BAD", "status() = 4", "judge(0, 0) = NONE",
            "set(0, 11, 255) = -1", "drop(0) = 12");
    }

    private void fillAsPaid(FirstCart x, int row) {
        for (int i = 0; i < 12; i++) {
            e.on(x, "set(" + row + ", " + i + ", " + (i < 6 ? i : -1) + ")");
        }
    }

    private void setAndItsPlaces() {
        e.edge(3, "ROWS 0 .. 7");
        e.on(new FirstCart(), "row(0, 0, 1)", "row(7, 0, 1)", "set(0, 0, 3) = 3", "set(7, 0, 3) = 3",
            "set(8, 0, 0) = BAD", "set(-1, 0, 0) = BAD", "set(MIN, 0, 0) = BAD", "set(MAX, 0, 0) = BAD");
        e.edge(3, "1 NULL (a ROW that is missing)");
        e.on(new FirstCart(), "set(0, 0, 0) = NULL", "status() = 1", "row(0, 0, 1)", "set(0, 0, 0) = 0",
            "drop(0)", "set(0, 0, 0) = NULL", "status() = 1");
        e.edge(3, "2 PLACE (no such place of a ROW)");
        e.on(new FirstCart(), "row(0, 0, 3)", "set(0, 2, 1) = 1", "set(0, 0, 1) = 1", "set(0, 3, 1) = PLACE",
            "status() = 2", "set(0, -1, 1) = PLACE", "set(0, MIN, 1) = PLACE", "set(0, MAX, 1) = PLACE",
            "row(1, 0, 0)", "set(1, 0, 1) = PLACE", "status() = 2");
        e.edge(3, "BAD: ROW; NULL; PLACE.");
        e.on(new FirstCart(), "set(8, -1, 0) = BAD", "set(-1, 40, 0) = BAD", "status() = 0", "set(0, -1, 0) = NULL",
            "set(0, 40, 0) = NULL", "status() = 1", "set(8, -1, 0) = BAD", "status() = 1");
        e.edge(3, "What is refused, or found, changes nothing but status().");
        FirstCart x = sixPayers();
        e.on(x, "row(0, 0, 12)", "row(1, 0, 12)");
        fillAsPaid(x, 0);
        fillAsPaid(x, 1);
        e.on(x, "set(0, 12, 5) = PLACE", "set(0, -1, 5) = PLACE", "set(8, 0, 5) = BAD", "judge(0, 0) = NONE",
            "judge(1, 0) = NONE", "set(2, 0, 5) = NULL", "count(0) = 2");
    }

    private void setAndItsBits() {
        e.edge(3, "ITEM i becomes v, its lowest bits, as many as the LANE has (read with their sign)");
        FirstCart x = new FirstCart();
        e.on(x, "row(0, 0, 1)", "set(0, 0, 127) = 127", "set(0, 0, 128) = -128", "set(0, 0, 255) = -1",
            "set(0, 0, 256) = 0", "set(0, 0, -128) = -128", "set(0, 0, -129) = 127", "set(0, 0, MAX) = -1",
            "set(0, 0, MIN) = 0");
        e.on(x, "row(1, 1, 1)", "set(1, 0, 32767) = 32767", "set(1, 0, 32768) = -32768", "set(1, 0, 65535) = -1",
            "set(1, 0, 65536) = 0", "set(1, 0, -32768) = -32768", "set(1, 0, -32769) = 32767",
            "set(1, 0, MAX) = -1", "set(1, 0, MIN) = 0", "set(1, 0, 128) = 128");
        e.on(x, "row(2, 2, 1)", "set(2, 0, MAX) = MAX", "set(2, 0, MIN) = MIN", "set(2, 0, -1) = -1",
            "set(2, 0, 65536) = 65536");
        // What the ITEM is then, not what was told, is judged.
        x = Due.with("1 1 1 1 1 1", "blind 0 0 0");
        e.on(x, "row(0, 0, 12)");
        for (int i = 1; i < 12; i++) {
            e.on(x, "set(0, " + i + ", 255) = -1");
        }
        e.on(x, "set(0, 0, 512) = 0", "judge(0, 0) = NONE");
    }

    private void copyAndItsRows() {
        e.edge(4, "BAD: ROWS; NULL; STORE; PLACE");
        FirstCart x = new FirstCart();
        e.on(x, "row(0, 0, 3)", "row(7, 0, 3)", "row(1, 1, 3)", "copy(0, 0, 7, 0, 3) = 3", "copy(7, 0, 0, 0, 3) = 3",
            "copy(8, 0, 0, 0, 1) = BAD", "copy(0, 0, 8, 0, 1) = BAD", "copy(-1, 0, 0, 0, 1) = BAD",
            "copy(0, 0, -1, 0, 1) = BAD", "copy(MIN, 0, MAX, 0, 1) = BAD", "status() = 0",
            "copy(3, 0, 8, 0, 1) = BAD", "copy(-1, 0, 3, 0, 1) = BAD", "copy(8, -1, 0, 0, -1) = BAD", "status() = 0",
            "copy(3, -1, 0, 0, 1) = NULL", "copy(0, -1, 3, 0, 1) = NULL", "copy(1, 0, 3, 9, 1) = NULL",
            "status() = 1", "copy(0, -1, 1, 0, 1) = STORE", "copy(0, 0, 1, 0, -1) = STORE",
            "copy(1, 9, 0, 9, 9) = STORE", "status() = 5");
        e.edge(4, "1 NULL (a ROW that is missing)");
        e.on(new FirstCart(), "copy(0, 0, 0, 0, 0) = NULL", "copy(0, 0, 1, 0, 0) = NULL", "row(0, 0, 1)",
            "copy(0, 0, 1, 0, 0) = NULL", "copy(1, 0, 0, 0, 0) = NULL", "status() = 1", "copy(0, 0, 0, 0, 0) = 0",
            "status() = 0");
        e.edge(4, "5 STORE (ROWS of two LANES)");
        x = new FirstCart();
        e.on(x, "row(0, 0, 3)", "row(1, 1, 3)", "row(2, 2, 3)");
        for (int a = 0; a < 3; a++) {
            for (int b = 0; b < 3; b++) {
                e.on(x, "copy(" + a + ", 0, " + b + ", 0, 1) = " + (a == b ? "1" : "STORE"),
                    "status() = " + (a == b ? "0" : "5"),
                    "copy(" + a + ", 0, " + b + ", 0, 0) = " + (a == b ? "0" : "STORE"));
            }
        }
    }

    private void copyAndItsPlaces() {
        e.edge(4, "PLACE (i, j, n below 0, or beyond an end)");
        FirstCart x = new FirstCart();
        e.on(x, "row(0, 0, 3)", "row(1, 0, 5)", "copy(0, -1, 1, 0, 1) = PLACE", "status() = 2",
            "copy(0, 0, 1, -1, 1) = PLACE", "copy(0, 0, 1, 0, -1) = PLACE", "copy(0, 3, 1, 0, 1) = PLACE",
            "copy(0, 0, 1, 0, 4) = PLACE", "copy(0, 2, 1, 0, 2) = PLACE", "copy(1, 0, 0, 0, 4) = PLACE",
            "copy(0, 0, 1, 5, 1) = PLACE", "copy(0, 0, 1, 3, 3) = PLACE", "copy(0, 0, 1, 2, 3) = 3",
            "status() = 0", "copy(0, MIN, 1, 0, 1) = PLACE", "copy(0, 0, 1, MIN, 1) = PLACE",
            "copy(0, 0, 1, 0, MIN) = PLACE", "copy(0, 0, 1, 0, MAX) = PLACE", "copy(0, 1, 1, 0, MAX) = PLACE",
            "copy(0, 0, 1, 1, MAX) = PLACE", "copy(0, MAX, 1, 0, 1) = PLACE", "copy(0, 0, 1, MAX, 1) = PLACE",
            "copy(0, MAX, 1, MAX, MAX) = PLACE", "copy(0, MIN, 1, MIN, MIN) = PLACE");
        // Nothing, at an end, is not beyond it; one place more is.
        e.on(x, "copy(0, 3, 1, 5, 0) = 0", "copy(0, 0, 1, 0, 0) = 0", "copy(0, 4, 1, 0, 0) = PLACE",
            "copy(0, 0, 1, 6, 0) = PLACE", "copy(0, -1, 1, 0, 0) = PLACE", "copy(0, 0, 1, -1, 0) = PLACE",
            "row(2, 0, 0)", "copy(2, 0, 2, 0, 0) = 0", "copy(2, 0, 2, 0, 1) = PLACE");
        e.edge(4, "What is refused, or found, changes nothing but status().");
        x = sixPayers();
        e.on(x, "row(0, 0, 12)", "row(1, 0, 14)");
        fillAsPaid(x, 0);
        e.on(x, "copy(0, 0, 0, 1, 12) = PLACE", "copy(1, 12, 0, 0, 3) = PLACE", "copy(1, 0, 0, 11, 2) = PLACE",
            "judge(0, 0) = NONE", "row(2, 2, 12)", "copy(2, 0, 0, 0, 12) = STORE", "judge(0, 0) = NONE",
            "copy(3, 0, 0, 0, 1) = NULL", "judge(0, 0) = NONE");
    }

    private void copyOverItself() {
        e.edge(4, "as they were ahead");
        FirstCart x = sixPayers();
        e.on(x, "row(0, 0, 14)");
        fillAsPaid(x, 0);
        e.on(x, "judge(0, 0) = NONE", "copy(0, 0, 0, 1, 12) = 12", "judge(0, 1) = NONE", "copy(0, 1, 0, 2, 12) = 12",
            "judge(0, 2) = NONE", "copy(0, 2, 0, 0, 12) = 12", "judge(0, 0) = NONE", "copy(0, 0, 0, 0, 14) = 14",
            "judge(0, 0) = NONE");
        e.edge(4, "n ITEMS of a from i on come to b from j on");
        e.on(x, "row(1, 0, 12)", "copy(0, 0, 1, 0, 11) = 11", "judge(1, 0) = 11", "copy(0, 11, 1, 11, 1) = 1",
            "judge(1, 0) = NONE", "judge(0, 0) = NONE", "copy(0, 4, 1, 3, 1) = 1", "judge(1, 0) = 3",
            "copy(0, 3, 1, 3, 0) = 0", "judge(1, 0) = 3", "copy(0, 3, 1, 3, 1) = 1", "judge(1, 0) = NONE",
            "status() = 0");
    }

    private void drop() {
        e.edge(5, "A ROW is missing from now on: how many ITEMS it had.");
        e.on(new FirstCart(), "row(0, 0, 0)", "row(7, 2, 40)", "count(0) = 2", "drop(0) = 0", "count(0) = 1",
            "drop(7) = 40", "status() = 0", "count(0) = 0", "set(7, 0, 0) = NULL", "copy(7, 0, 7, 0, 0) = NULL");
        e.edge(5, "BAD; NULL.");
        e.on(new FirstCart(), "drop(-1) = BAD", "drop(8) = BAD", "drop(MIN) = BAD", "drop(MAX) = BAD", "status() = 0",
            "drop(3) = NULL", "status() = 1", "row(3, 0, 2)", "drop(3) = 2", "drop(3) = NULL", "status() = 1",
            "drop(8) = BAD", "status() = 1");
        e.edge(5, "What is refused, or found, changes nothing but status().");
        e.on(new FirstCart(), "row(3, 0, 2)", "drop(4) = NULL", "drop(8) = BAD", "count(0) = 1", "drop(3) = 2");
    }
}
