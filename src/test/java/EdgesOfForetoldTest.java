import java.io.IOException;

/** Promises 13 to 23: what the document says of the edges of what is FORETOLD. */
public final class EdgesOfForetoldTest {
    private static final String TEN = "10 11 12 13 14 15";

    private final Edges e = new Edges("EdgesOfForetoldTest");

    private EdgesOfForetoldTest() throws IOException {
    }

    public static void main(String[] args) throws IOException {
        EdgesOfForetoldTest t = new EdgesOfForetoldTest();
        t.nothingChanges();
        t.day();
        t.judgeAndItsPlaces();
        t.judgeAndItsItems();
        t.judgeByTheDay();
        t.best();
        t.rest();
        t.restBeyondTwentyRounds();
        t.thought();
        t.two();
        t.shares();
        t.holds();
        t.size();
        t.book();
        t.ford();
        t.fordAsFraction();
        t.goat();
        t.goatAmongOthers();
        t.e.end(13, 14, 15, 16, 17, 18, 19, 20, 21, 22, 23);
    }

    private void nothingChanges() {
        String[] calls = {"day(1, 1)", "judge(0, 0)", "best(1, 0)", "rest(-1)", "thought(1, 4)", "two(1, 2, 0, 0)",
            "shares(3, 0)", "size()", "book(1, 30)", "ford(1, 50, 3, 0)", "goat(1, 3)"};
        for (int i = 0; i < calls.length; i++) {
            e.edge(13 + i, "FORETOLD (nothing changes");
            FirstCart x = Due.with(TEN, "blind 0 3 0", "wait 1 4 5", "form 2 1 7");
            e.on(x, "row(0, 0, 12)", "ask(0, 1)", "waits(1, 6)", "2 times hour()", calls[i], calls[i], "count(0) = 1",
                "count(1) = 3", "count(2) = 2", "count(3) = 1", "count(4) = 3", "count(5) = 10", "cart(0, 3) = 0",
                "cart(0, 4) = 10", "cart(1, 2) = 6", "cart(1, 3) = NONE", "cart(2, 2) = 7", "kind(3) = BAD",
                "trace(0) = 23", "fault() = 0", "5 times hour() = 0", "hour() = 6", "cart(1, 4) = 11", "8 times undo()",
                "count(4) = 1", "undo() = 0", "cart(1, 2) = 5", "undo() = STATE", "count(2) = 0");
        }
    }

    private void day() {
        e.edge(13, "a DAY: HOURS 0 to 11 from the first one on, as if nobody had GONE");
        FirstCart x = Due.with(TEN, "go 0 5 0", "back 11 20 0", "wait 3 2 4");
        for (int h = 0; h <= 12; h++) {
            e.on(x, "day(0, 0) = 0", "day(0, 1) = 10", "day(0, 2) = 10", "day(1, 0) = 11", "day(1, 1) = 10",
                "day(1, 2) = 10", "day(2, 0) = 7", "day(2, 1) = 18", "day(2, 2) = 10", "hour()");
        }
        e.edge(13, "DAY: when a CART goes (what = 0), COST (1), what it PAYS (2). BAD.");
        x = Due.with(TEN, "go 0 5 0", "wait 0 1 9");
        e.on(x, "day(0, 3) = BAD", "day(0, -1) = BAD", "day(0, MIN) = BAD", "day(0, MAX) = BAD", "day(2, 0) = BAD",
            "day(-1, 0) = BAD", "day(MIN, 0) = BAD", "day(MAX, 0) = BAD", "day(1, 0) = 0", "day(1, 1) = 0",
            "day(1, 2) = 0", "day(0, 2) = 11");
        // By the PATIENCE that is now, also if that stands behind the first HOURS.
        x = Due.with(TEN, "wait 0 1 9");
        e.on(x, "3 times hour()", "waits(0, 1)", "day(0, 0) = 1", "hour() = 1", "day(0, 0) = 1", "cart(0, 3) = 3");
        e.on(Due.with(TEN), "day(0, 0) = BAD");
    }

    private void asPaid(FirstCart x, int row, int first, int... payers) {
        for (int h = 0; h < 12; h++) {
            e.on(x, "set(" + row + ", " + (first + h) + ", " + (h < payers.length ? payers[h] : -1) + ")");
        }
    }

    private void judgeAndItsPlaces() {
        e.edge(14, "12 ITEMS of a ROW from i on");
        FirstCart x = Due.with(TEN, "blind 0 0 0", "blind 1 0 0");
        e.on(x, "row(0, 0, 11)", "judge(0, 0) = PLACE", "status() = 2", "row(0, 0, 12)");
        asPaid(x, 0, 0, 0, 1);
        e.on(x, "judge(0, 0) = NONE", "status() = 0", "judge(0, 1) = PLACE", "judge(0, -1) = PLACE", "judge(0, MIN) = PLACE",
            "judge(0, MAX) = PLACE", "status() = 2", "row(1, 1, 40)");
        asPaid(x, 1, 28, 0, 1);
        e.on(x, "judge(1, 28) = NONE", "judge(1, 29) = PLACE", "judge(1, 40) = PLACE", "row(2, 2, 0)", "judge(2, 0) = PLACE",
            "row(3, 2, 12)");
        asPaid(x, 3, 0, 0, 1);
        e.on(x, "judge(3, 0) = NONE", "status() = 0");
        e.edge(14, "STATE: no PASS (ahead of BAD)");
        e.on(new FirstCart(), "judge(8, 0) = STATE", "judge(-1, 0) = STATE", "judge(0, -1) = STATE", "status() = 0",
            "row(0, 0, 12)", "judge(0, 0) = STATE", "judge(0, 1) = STATE", "drop(1) = NULL", "judge(0, 0) = STATE",
            "status() = 1");
        e.edge(14, "BAD: ROW");
        e.on(x, "judge(8, 0) = BAD", "judge(-1, 0) = BAD", "judge(MIN, 0) = BAD", "judge(MAX, 0) = BAD", "status() = 0",
            "row(7, 0, 12)");
        asPaid(x, 7, 0, 0, 1);
        e.on(x, "judge(7, 0) = NONE");
        e.edge(14, "NULL; PLACE; then BAD: an ITEM that is no CART, not -1.");
        x = Due.with(TEN, "blind 0 0 0", "blind 1 0 0");
        e.on(x, "judge(0, 0) = NULL", "judge(0, 99) = NULL", "judge(0, -1) = NULL", "status() = 1", "row(0, 0, 12)",
            "set(0, 0, 2)", "judge(0, 1) = PLACE", "status() = 2", "judge(0, 0) = BAD", "drop(0)", "judge(0, 0) = NULL");
    }

    private void judgeAndItsItems() {
        e.edge(14, "an ITEM that is no CART, not -1");
        FirstCart x = Due.with(TEN, "blind 0 0 0", "blind 1 0 0");
        e.on(x, "row(0, 2, 14)");
        asPaid(x, 0, 1, 0, 1);
        for (int place = 1; place <= 12; place++) {
            int due = place == 1 ? 0 : place == 2 ? 1 : -1;
            for (String odd : new String[] {"2", "-2", "MIN", "MAX", "6"}) {
                e.on(x, "drop(7) = NULL", "set(0, " + place + ", " + odd + ")", "judge(0, 1) = BAD");
            }
            e.on(x, "drop(7) = NULL", "judge(0, 1) = BAD", "status() = 1", "set(0, " + place + ", " + due + ")",
                "judge(0, 1) = NONE");
        }
        // Outside the twelve it may be anything; an HOUR that is wrong ahead of it does not hide it.
        e.on(x, "set(0, 0, 99)", "set(0, 13, 99)", "judge(0, 1) = NONE", "set(0, 1, 1)", "judge(0, 1) = 0",
            "set(0, 12, 2)", "judge(0, 1) = BAD");
        x = Due.with(TEN);
        e.on(x, "row(0, 0, 12)", "judge(0, 0) = BAD");
        asPaid(x, 0, 0);
        e.on(x, "judge(0, 0) = NONE");
        x = Due.with(TEN, "go 0 0 0", "go 1 0 0", "go 2 0 0", "go 3 0 0", "go 4 0 0", "go 5 0 0");
        e.on(x, "row(0, 0, 12)");
        asPaid(x, 0, 0, 0, 1, 2, 3, 4, 5);
        e.on(x, "judge(0, 0) = NONE", "set(0, 5, 6)", "judge(0, 0) = BAD");
        e.edge(14, "What is refused, or found, changes nothing but status().");
        e.on(x, "drop(7) = NULL", "judge(0, 0) = BAD", "judge(0, 1) = PLACE", "judge(1, 0) = NULL", "count(0) = 1",
            "set(0, 5, 5)", "judge(0, 0) = NONE");
    }

    private void judgeByTheDay() {
        e.edge(14, "(-1: nobody did): the first HOUR in which it is not so by the DAY; NONE");
        FirstCart x = Due.with(TEN, "wait 0 0 0", "go 4 0 0", "back 5 0 0");
        e.on(x, "row(0, 0, 12)");
        asPaid(x, 0, 0, 0, -1, -1, -1, 1);
        // In HOUR 11 the last one pays.
        e.on(x, "judge(0, 0) = 11", "status() = 0", "set(0, 11, 2)", "judge(0, 0) = NONE", "set(0, 4, -1)",
            "judge(0, 0) = 4", "set(0, 4, 2)", "judge(0, 0) = 4", "set(0, 3, 1)", "judge(0, 0) = 3", "set(0, 0, -1)",
            "judge(0, 0) = 0", "12 times hour()", "judge(0, 0) = 0");
        asPaid(x, 0, 0, 0, -1, -1, -1, 1, -1, -1, -1, -1, -1, -1, 2);
        e.on(x, "judge(0, 0) = NONE");
        // By the PATIENCE that is now.
        x = Due.with(TEN, "wait 0 0 0");
        e.on(x, "row(0, 0, 12)");
        asPaid(x, 0, 0, -1, 0);
        e.on(x, "judge(0, 0) = 0", "waits(0, 1)", "judge(0, 0) = NONE", "undo()", "judge(0, 0) = 0");
        // By the DAY, not by the HOURS that have gone by: there it went in HOUR 3.
        x = Due.with(TEN, "wait 0 0 9");
        e.on(x, "3 times hour() = 0", "waits(0, 1)", "hour() = 1", "cart(0, 3) = 3", "row(0, 0, 12)");
        asPaid(x, 0, 0, -1, 0);
        e.on(x, "judge(0, 0) = NONE");
        asPaid(x, 0, 0, -1, -1, -1, 0);
        e.on(x, "judge(0, 0) = 1");
        // Who PAYS a toll of 0 has PAID.
        x = Due.with("0 0 0 0 0 0", "wait 0 0 0");
        e.on(x, "row(0, 0, 12)");
        asPaid(x, 0, 0, 0);
        e.on(x, "judge(0, 0) = NONE");
        asPaid(x, 0, 0);
        e.on(x, "judge(0, 0) = 0");
    }

    private void best() {
        e.edge(15, "the PATIENCE by which its COST of a DAY is least, others as they are, of several the least");
        FirstCart x = Due.with("20 30 24 26 28 30", "wait 3 4 7", "go 4 1 0");
        // Cart 0: 0 makes it pay alone, 1 for two; 2 to 11 are alike. Cart 1: in HOUR 10 the other one pays.
        e.on(x, "best(0, 0) = 2", "best(0, 1) = 4", "best(1, 0) = 6", "best(1, 1) = 6");
        x = Due.with("20 30 24 26 28 30", "wait 0 0 7", "wait 11 0 7");
        e.on(x, "best(0, 0) = 0", "best(0, 1) = 20", "best(1, 0) = 0", "best(1, 1) = 20");
        // Only the greatest of all is best: in HOUR 11 the toll for two is less by more than the hours cost.
        x = Due.with("99 1 24 26 28 30", "wait 0 8 0", "go 11 0 0");
        e.on(x, "best(0, 0) = 11", "best(0, 1) = 89", "waits(0, 11) = 0", "best(0, 0) = 11");
        x = Due.with("99 1 24 26 28 30", "wait 0 9 0", "go 11 0 0");
        e.on(x, "best(0, 0) = 0", "best(0, 1) = 99");
        // 11 hours of 8 and 10 are as much as 98 at once: of several the least.
        x = Due.with("98 10 24 26 28 30", "wait 0 8 5", "go 11 0 0");
        e.on(x, "best(0, 0) = 0", "best(0, 1) = 98");
        e.edge(15, "BEST: PATIENCE (what = 0), COST (1). BAD.");
        e.on(x, "best(0, 2) = BAD", "best(0, -1) = BAD", "best(0, MIN) = BAD", "best(0, MAX) = BAD", "best(2, 0) = BAD",
            "best(-1, 0) = BAD", "best(MIN, 0) = BAD", "best(MAX, 0) = BAD");
        e.on(new FirstCart(), "best(0, 0) = BAD");
        e.on(Due.with(TEN), "best(0, 0) = BAD");
        // As if nobody had GONE.
        e.on(x, "12 times hour()", "best(0, 0) = 0", "best(0, 1) = 98");
    }

    private void rest() {
        e.edge(16, "STATE: no PASS (ahead of BAD)");
        e.on(new FirstCart(), "rest(-1) = STATE", "rest(0) = STATE", "rest(-2) = STATE", "rest(6) = STATE");
        e.edge(16, "rounds (cart = -1), PATIENCE of a CART; NONE. BAD");
        FirstCart x = Due.with("20 30 24 26 28 30", "wait 3 4 7", "blind 4 1 0");
        e.on(x, "rest(-1) = 2", "rest(0) = 2", "rest(1) = 0", "rest(2) = BAD", "rest(-2) = BAD", "rest(MIN) = BAD",
            "rest(MAX) = BAD");
        e.edge(16, "till a round in which nobody's changes: how many rounds (that one, too");
        e.on(Due.with(TEN), "rest(-1) = 1", "rest(0) = BAD");
        e.on(x, "waits(0, 2)", "rest(-1) = 1", "rest(0) = 2", "waits(1, 1)", "rest(-1) = 2", "rest(1) = 0");
        e.edge(16, "CARTS 0 on take their BEST one after another");
        // They want to go together. Cart 1 takes its BEST behind cart 0: at once they would change for ever,
        // the other way round both would come to 2.
        x = Due.with("20 10 30 30 30 30", "go 0 2 2", "go 0 5 0");
        e.on(x, "best(0, 0) = 0", "best(1, 0) = 2", "rest(-1) = 2", "rest(0) = 0", "rest(1) = 0");
    }

    private void restBeyondTwentyRounds() {
        e.edge(16, "20 at most; NONE: more");
        FirstCart x = Due.with("99 98 99 96 98 98", "wait 3 0 5", "wait 5 1 7", "wait 1 2 4", "wait 4 0 10", "go 6 2 7");
        e.on(x, "rest(-1) = 19");
        x = Due.with("13 79 50 27 41 98", "wait 0 1 4", "wait 2 3 1", "go 0 0 4", "wait 0 2 1");
        e.on(x, "rest(-1) = 20", "rest(0) = 11", "rest(1) = 9", "rest(2) = 11", "rest(3) = 11");
        // Here a 21st round would be the first in which nobody's changes.
        x = Due.with("96 98 98 97 98 98", "wait 0 0 4", "go 1 0 0", "wait 1 0 9", "wait 0 0 1");
        e.on(x, "rest(-1) = NONE", "rest(0) = 11", "rest(1) = 10", "rest(2) = 10", "rest(3) = 11");
        e.edge(16, "(behind 20 rounds: so far)");
        // In a 21st round cart 1 would come to 7.
        x = Due.with("97 99 98 97 99 98", "wait 0 0 8", "go 4 1 1", "wait 3 2 1", "wait 0 0 4");
        e.on(x, "rest(-1) = NONE", "rest(0) = 11", "rest(1) = 6", "rest(2) = 8", "rest(3) = 11");
        // It never ends: round 1 brings both to 0, each later one to an hour more, and behind 11 to 0 again.
        x = Due.with("99 99 99 99 99 99", "wait 0 0 11", "wait 0 0 11");
        e.on(x, "rest(-1) = NONE", "rest(0) = 7", "rest(1) = 7", "cart(0, 2) = 11");
    }

    private void thought() {
        e.edge(17, "PATIENCES (bits 0 to 11) by which a CART would go in a told HOUR of a DAY");
        FirstCart x = Due.with(TEN, "go 0 0 5", "go 11 0 5", "blind 4 0 5", "back 4 0 5");
        for (int h = 0; h < 12; h++) {
            e.on(x, "thought(0, " + h + ") = " + (1 << h), "thought(1, " + h + ") = " + (h == 11 ? 4095 : 0),
                "thought(2, " + h + ") = " + (h == 4 ? 4095 : 0));
        }
        // One that goes with others, or in HOUR 11, whatever it thinks; 0: by none.
        e.on(x, "thought(3, 4) = 4095", "thought(3, 11) = 0");
        e.on(Due.with(TEN, "wait 9 0 0"), "thought(0, 8) = 0", "thought(0, 9) = 1", "thought(0, 10) = 2",
            "thought(0, 11) = 4092", "12 times hour()", "thought(0, 9) = 1", "thought(0, 11) = 4092");
        e.edge(17, "THOUGHT. BAD.");
        e.on(x, "thought(0, 12) = BAD", "thought(0, -1) = BAD", "thought(0, MIN) = BAD", "thought(0, MAX) = BAD",
            "thought(4, 0) = BAD", "thought(-1, 0) = BAD", "thought(MIN, 0) = BAD", "thought(MAX, 0) = BAD");
        e.on(new FirstCart(), "thought(0, 0) = BAD");
        e.on(Due.with(TEN), "thought(0, 0) = BAD");
    }

    private void two() {
        e.edge(18, "BAD: alike, too.");
        FirstCart x = Due.with("90 20 1 1 1 1", "wait 0 3 0", "go 5 20 0", "back 0 0 0", "form 9 19 0");
        e.on(x, "two(0, 0, 0, 0) = BAD", "two(3, 3, 0, 1) = BAD", "two(4, 0, 0, 0) = BAD", "two(0, 4, 0, 0) = BAD",
            "two(-1, 0, 0, 0) = BAD", "two(0, -1, 0, 0) = BAD", "two(MIN, MAX, 0, 0) = BAD", "two(0, 1, 12, 0) = BAD",
            "two(0, 1, -1, 0) = BAD", "two(0, 1, MIN, 0) = BAD", "two(0, 1, MAX, 0) = BAD", "two(0, 1, 0, 2) = BAD",
            "two(0, 1, 0, -1) = BAD", "two(0, 1, 0, MAX) = BAD", "two(-1, -1, 0, 0) = BAD");
        e.on(new FirstCart(), "two(0, 1, 0, 0) = BAD");
        e.on(Due.with(TEN, "go 0 0 0"), "two(0, 1, 0, 0) = BAD", "two(0, 0, 0, 0) = BAD");
        e.edge(18, "in HOUR 11 the first one goes");
        e.on(x, "two(0, 1, 11, 0) = 11", "two(0, 1, 11, 1) = 0", "two(1, 0, 11, 0) = 11", "two(1, 0, 11, 1) = 1");
        e.edge(18, "of like ones he goes: the HOUR, who goes");
        for (int h = 0; h < 11; h++) {
            // The second one: to go costs 20, to wait 20 as well; for 19 he waits, and the first one goes.
            e.on(x, "two(0, 1, " + h + ", 0) = " + h, "two(0, 1, " + h + ", 1) = 1", "two(0, 3, " + h + ", 0) = " + h,
                "two(0, 3, " + h + ", 1) = 0");
            // The first one: an hour costs him nothing, and 20 then as now.
            e.on(x, "two(2, 0, " + h + ", 0) = " + h, "two(2, 0, " + h + ", 1) = 2");
        }
        // Nothing is due: the first one goes, though the second one would, too.
        x = Due.with("90 0 1 1 1 1", "wait 0 3 0", "go 5 20 0");
        e.on(x, "two(0, 1, 0, 0) = 0", "two(0, 1, 0, 1) = 0", "two(1, 0, 10, 1) = 1");
        x = Due.with("90 1 1 1 1 1", "wait 0 3 0", "go 5 1 0", "go 0 0 0");
        e.on(x, "two(0, 1, 10, 1) = 1", "two(1, 0, 10, 1) = 0", "two(0, 2, 10, 1) = 0");
        e.edge(18, "TWO unlike CARTS STAND alone from HOUR h on, whatever their SORTS");
        // Neither when they COME nor whether they have GONE is asked.
        x = Due.with("90 20 1 1 1 1", "back 11 3 0", "blind 0 20 0");
        e.on(x, "two(0, 1, 0, 0) = 0", "two(0, 1, 0, 1) = 1", "two(1, 0, 0, 1) = 1", "12 times hour()",
            "two(0, 1, 0, 0) = 0", "two(0, 1, 0, 1) = 1");
        for (String sort : new String[] {"wait", "go", "form", "back", "blind"}) {
            x = Due.with("90 20 1 1 1 1", sort + " 11 3 0", sort + " 11 20 11");
            e.on(x, "two(0, 1, 0, 0) = 0", "two(0, 1, 0, 1) = 1", "two(1, 0, 0, 0) = 0", "two(1, 0, 0, 1) = 1");
        }
    }

    private void shares() {
        e.edge(19, "STATE: no PASS (ahead of BAD)");
        e.on(new FirstCart(), "shares(1, 0) = STATE", "shares(0, 0) = STATE", "shares(7, 0) = STATE",
            "shares(1, -2) = STATE", "shares(1, 1) = STATE");
        e.edge(19, "SHARES of a TRAIN of n (1 to 6)");
        FirstCart x = Due.with("10 21 15 17 3 99");
        e.on(x, "shares(1, 0) = 10", "shares(6, 0) = 17", "shares(0, 0) = BAD", "shares(7, 0) = BAD", "shares(-1, 0) = BAD",
            "shares(MIN, 0) = BAD", "shares(MAX, 0) = BAD", "shares(0, -1) = BAD", "shares(7, 7) = BAD");
        e.edge(19, "NONE: not so many");
        for (int n = 1; n <= 6; n++) {
            e.on(x, "shares(" + n + ", " + n + ") = NONE", "shares(" + n + ", MAX) = NONE");
        }
        e.on(x, "shares(1, 1) = NONE", "shares(2, 1) = 10", "shares(6, 5) = 16");
        e.edge(19, "BAD: n, k below -1");
        e.on(x, "shares(6, -2) = BAD", "shares(6, MIN) = BAD", "shares(1, -2) = BAD", "shares(6, -1) = 0", "shares(0, 9) = BAD",
            "shares(7, -2) = BAD");
        e.edge(19, "its toll in whole parts as alike as can be, the greater ones first");
        e.on(x, "shares(2, 0) = 11", "shares(2, 1) = 10", "shares(3, 0) = 5", "shares(3, 2) = 5", "shares(4, 0) = 5",
            "shares(4, 1) = 4", "shares(4, 3) = 4", "shares(5, 0) = 1", "shares(5, 2) = 1", "shares(5, 3) = 0",
            "shares(5, 4) = 0", "shares(6, 2) = 17", "shares(6, 3) = 16");
        // A TRAIN of n is thought of, whatever CARTS there are.
        e.on(Due.with("0 1 2 3 4 5", "go 0 0 0"), "shares(6, 0) = 1", "shares(6, 4) = 1", "shares(6, 5) = 0",
            "shares(1, 0) = 0");
    }

    private void holds() {
        e.edge(19, "It HOLDS, if no k of them (1 to n less 1), those with the greatest parts, have parts of more than the toll for k");
        // Alone it always does; as much as the toll for k is not more.
        FirstCart x = Due.with("0 0 0 0 0 0");
        for (int n = 1; n <= 6; n++) {
            e.on(x, "shares(" + n + ", -1) = 1");
        }
        e.on(Due.with("99 99 99 99 99 99"), "shares(1, -1) = 1", "shares(2, -1) = 1", "shares(6, -1) = 1");
        e.on(Due.with("10 20 30 40 50 60"), "shares(6, -1) = 1", "shares(2, -1) = 1");
        // One part of more than the toll for 1: the greatest one is looked at.
        e.on(Due.with("10 21 0 0 0 0"), "shares(2, -1) = 0");
        e.on(Due.with("11 21 0 0 0 0"), "shares(2, -1) = 1");
        // n less 1 of them: five of six have 50 together.
        e.on(Due.with("99 99 99 99 49 60"), "shares(6, -1) = 0", "shares(5, -1) = 1");
        e.on(Due.with("99 99 99 99 50 60"), "shares(6, -1) = 1");
        // Three of them: 55 in parts of 10, 9, 9, 9, 9, 9.
        e.on(Due.with("99 99 27 99 99 55"), "shares(6, -1) = 0");
        e.on(Due.with("99 99 28 99 99 55"), "shares(6, -1) = 1");
    }

    private void size() {
        e.edge(20, "STATE: no PASS.");
        e.on(new FirstCart(), "size() = STATE", "pass()", "size() = STATE");
        e.edge(20, "the n by which the toll by n (here not cut) is least, of several the least");
        e.on(Due.with("0 0 0 0 0 0"), "size() = 1");
        e.on(Due.with("10 20 30 40 50 60"), "size() = 1");
        e.on(Due.with("11 20 30 40 50 60"), "size() = 2");
        e.on(Due.with("99 99 99 99 99 99"), "size() = 6");
        e.on(Due.with("1 1 1 0 0 0"), "size() = 4");
        // Cut, 7 by 2 and 10 by 3 were alike, and so were 7 by 2 and 11 by 3.
        e.on(Due.with("99 7 10 99 99 99"), "size() = 3");
        e.on(Due.with("99 7 11 99 99 99"), "size() = 2");
        e.on(Due.with("99 99 99 99 84 99"), "size() = 6");
        e.on(Due.with("99 99 99 99 82 99"), "size() = 5");
    }

    private void book() {
        e.edge(21, "BOOK: n DAYS (1 to 30)");
        FirstCart x = Due.with("1 2 3 4 5 6", "go 0 0 0", "go 5 0 0");
        e.on(x, "book(0, 1) = 1", "book(0, 30) = 30", "book(1, 30) = 30", "book(0, 0) = BAD", "book(0, 31) = BAD",
            "book(0, -1) = BAD", "book(0, MIN) = BAD", "book(0, MAX) = BAD");
        e.edge(21, "BOOK. BAD.");
        e.on(x, "book(2, 1) = BAD", "book(-1, 1) = BAD", "book(MIN, 1) = BAD", "book(MAX, 1) = BAD");
        e.on(new FirstCart(), "book(0, 1) = BAD");
        e.on(Due.with(TEN), "book(0, 1) = BAD");
        e.edge(21, "who was FOREMOST least often so far, of like ones as told: how often a CART was");
        // Of like ones who COMES first, then the least number: cart 1, 0, 2, 1, 0, 2 ..
        x = Due.with("1 2 3 4 5 6", "go 1 0 0", "go 0 0 1", "go 1 0 0");
        e.on(x, "book(1, 1) = 1", "book(0, 1) = 0", "book(0, 2) = 1", "book(2, 2) = 0", "book(2, 3) = 1", "book(1, 3) = 1",
            "book(1, 4) = 2", "book(0, 4) = 1", "book(0, 29) = 10", "book(1, 29) = 10", "book(2, 29) = 9", "book(2, 30) = 10");
        // The book is begun anew by each call, and counts from all HOURS of a DAY.
        e.on(x, "book(1, 1) = 1", "day(1, 2) = 3", "12 times hour()", "cart(1, 4) = 3", "book(1, 1) = 1");
        e.on(Due.with("0 0 0 0 0 0", "wait 0 0 0"), "book(0, 30) = 30");
        e.edge(21, "(one that turns back only if no other is READY)");
        x = Due.with("1 2 3 4 5 6", "back 0 0 0", "wait 5 0 11", "back 0 0 0");
        e.on(x, "book(0, 30) = 0", "book(1, 30) = 30", "book(2, 30) = 0");
        x = Due.with("1 2 3 4 5 6", "back 4 0 0", "back 3 0 0");
        e.on(x, "book(1, 1) = 1", "book(0, 2) = 1", "book(0, 29) = 14", "book(1, 29) = 15");
        e.edge(21, "in each of which FOREMOST is of the READY ones");
        // A waiting one that only goes along is not FOREMOST, however seldom it was.
        e.on(Due.with("1 2 3 4 5 6", "blind 0 0 0", "wait 0 0 5"), "book(0, 30) = 30", "book(1, 30) = 0");
    }

    private void isFord(FirstCart x, int p, int n, int above, int below) {
        e.on(x, "ford(0, " + p + ", " + n + ", 0) = " + above, "ford(0, " + p + ", " + n + ", 1) = " + below);
    }

    private void ford() {
        e.edge(22, "FORD (p 0 to 100): above (what = 0), below (1). BAD.");
        FirstCart x = Due.with("30 99 99 99 99 99", "wait 0 5 0");
        e.on(x, "ford(0, -1, 0, 0) = BAD", "ford(0, 101, 0, 0) = BAD", "ford(0, MIN, 0, 0) = BAD", "ford(0, MAX, 0, 0) = BAD",
            "ford(0, 0, 0, 2) = BAD", "ford(0, 0, 0, -1) = BAD", "ford(0, 0, 0, MAX) = BAD", "ford(1, 0, 0, 0) = BAD",
            "ford(-1, 0, 0, 0) = BAD", "ford(MIN, 0, 0, 0) = BAD", "ford(MAX, 0, 0, 0) = BAD");
        e.on(new FirstCart(), "ford(0, 0, 0, 0) = BAD");
        e.on(Due.with(TEN), "ford(0, 0, 0, 0) = BAD");
        isFord(x, 0, 3, 30, 1);
        isFord(x, 100, 3, 5, 1);
        isFord(x, 1, 3, 30, 1);
        isFord(x, 99, 1, 53, 10);
        e.edge(22, "a CART alone may wait n HOURS (0 to 3) more, each costs it HASTE");
        e.on(x, "ford(0, 50, -1, 0) = BAD", "ford(0, 50, 4, 0) = BAD", "ford(0, 50, MIN, 0) = BAD", "ford(0, 50, MAX, 0) = BAD");
        isFord(x, 100, 0, 30, 1);
        isFord(x, 30, 0, 30, 1);
        isFord(x, 30, 1, 26, 1);
        isFord(x, 30, 2, 116, 5);
        isFord(x, 30, 3, 531, 25);
        e.edge(22, "in each there is a ford open, that costs nothing, by p of 100; else it may go and PAY for 1: its least COST from now on");
        // Not to wait is best where an hour costs more than it brings; as much is alike.
        isFord(Due.with("20 0 0 0 0 0", "wait 0 10 0"), 50, 3, 20, 1);
        isFord(Due.with("20 0 0 0 0 0", "wait 0 9 0"), 50, 1, 19, 1);
        isFord(Due.with("20 0 0 0 0 0", "wait 0 11 0"), 50, 3, 20, 1);
        isFord(Due.with("3 99 99 99 99 99", "wait 0 20 0"), 100, 3, 3, 1);
        // From now on: when it COMES, and that it has GONE, is not asked.
        x = Due.with("30 99 99 99 99 99", "blind 0 5 0");
        e.on(x, "12 times hour()");
        isFord(x, 30, 3, 531, 25);
    }

    private void fordAsFraction() {
        e.edge(22, "fractions, told as two numbers in lowest terms (0 is 0 by 1)");
        isFord(Due.with("0 9 9 9 9 9", "wait 0 20 0"), 50, 3, 0, 1);
        isFord(Due.with("0 9 9 9 9 9", "wait 0 0 0"), 0, 0, 0, 1);
        isFord(Due.with("99 9 9 9 9 9", "wait 0 0 0"), 100, 3, 0, 1);
        isFord(Due.with("99 9 9 9 9 9", "wait 0 0 0"), 100, 1, 0, 1);
        isFord(Due.with("99 9 9 9 9 9", "wait 0 0 0"), 1, 3, 96059601, 1000000);
        isFord(Due.with("99 9 9 9 9 9", "wait 0 0 0"), 99, 3, 99, 1000000);
        isFord(Due.with("99 9 9 9 9 9", "wait 0 20 0"), 57, 3, 40169193, 1000000);
        isFord(Due.with("50 9 9 9 9 9", "wait 0 0 0"), 99, 1, 1, 2);
        isFord(Due.with("99 9 9 9 9 9", "wait 0 0 0"), 50, 1, 99, 2);
        isFord(Due.with("40 9 9 9 9 9", "wait 0 0 0"), 50, 3, 5, 1);
    }

    private void goat() {
        e.edge(23, "GOAT. BAD.");
        FirstCart x = Due.with("10 15 17 18 19 20", "wait 0 4 5", "wait 1 0 11");
        e.on(x, "goat(0, -1) = BAD", "goat(0, 12) = BAD", "goat(0, MIN) = BAD", "goat(0, MAX) = BAD", "goat(-1, 0) = BAD",
            "goat(2, 0) = BAD", "goat(MIN, 0) = BAD", "goat(MAX, 0) = BAD");
        e.on(new FirstCart(), "goat(0, 0) = BAD");
        e.on(Due.with(TEN), "goat(0, 0) = BAD");
        e.edge(23, "COMES in a told HOUR: COST of that CART in a DAY then, and what the goat PAYS, less COST without it");
        // Without it cart 0 goes in HOUR 5, and pays 15 for two: 35.
        e.on(x, "goat(0, 0) = -20", "goat(0, 1) = -14", "goat(0, 4) = -2", "goat(0, 5) = 2", "goat(0, 6) = 10", "goat(0, 11) = 10",
            "goat(1, 0) = 25", "goat(1, 5) = 0", "12 times hour()", "goat(0, 0) = -20");
        e.on(Due.with("10 15 17 18 19 20", "go 11 0 0"), "goat(0, 0) = 10", "goat(0, 10) = 10", "goat(0, 11) = 5");
    }

    private void goatAmongOthers() {
        e.edge(23, "for 1 to 6 CARTS together, the last one for more, too");
        FirstCart x = Due.with("1 2 3 4 5 6", "wait 0 0 3", "wait 0 0 3", "wait 0 0 3", "wait 0 0 3", "wait 0 0 3", "wait 0 0 3");
        // Seven together: the goat pays for them in HOUR 2, cart 0 in HOUR 3 as without it.
        e.on(x, "goat(5, 2) = 6", "goat(0, 2) = 0", "goat(0, 3) = 0", "goat(5, 3) = 0", "goat(0, 4) = 1", "goat(5, 11) = 1",
            "goat(6, 0) = BAD");
        e.edge(23, "a blind one of HASTE 0, PATIENCE 0, the last number");
        // Of like ones that COME in the same HOUR it is the last.
        x = Due.with("10 15 17 18 19 20", "wait 4 0 0", "wait 0 0 11");
        e.on(x, "goat(0, 4) = 2", "goat(1, 4) = 0", "goat(0, 3) = 10", "goat(1, 3) = 15", "goat(0, 5) = 10");
        // It is the third one that stands, for those that form; one that turns back does not pay beside it.
        x = Due.with("10 15 17 18 19 20", "form 0 4 11", "wait 1 1 11");
        e.on(x, "goat(0, 2) = -34", "goat(1, 2) = -9", "goat(1, 0) = 25");
        e.on(Due.with("10 15 17 18 19 20", "back 0 4 11"), "goat(0, 11) = 5", "goat(0, 0) = -39");
    }
}
