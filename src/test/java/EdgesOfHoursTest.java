import java.io.IOException;
import java.util.Arrays;

/** Promises 9 to 12, 24, 25: what the document says of the edges of hour, waits, undo, cart, image, restore. */
public final class EdgesOfHoursTest {
    private static final String TEN = "10 11 12 13 14 15";

    private final Edges e = new Edges("EdgesOfHoursTest");

    private EdgesOfHoursTest() throws IOException {
    }

    public static void main(String[] args) throws IOException {
        EdgesOfHoursTest t = new EdgesOfHoursTest();
        t.hourAndItsRefusals();
        t.whoStands();
        t.whoIsReady();
        t.whoIsReadyInTheLastHour();
        t.whoGoesAlong();
        t.whoIsForemost();
        t.whatIsPaid();
        t.waits();
        t.undo();
        t.actsThatAreKept();
        t.cart();
        t.image();
        t.restore();
        t.e.end(9, 10, 11, 12, 24, 25);
    }

    private void hourAndItsRefusals() {
        e.edge(9, "STATE: no PASS; FULL: HOUR 11 is gone.");
        e.on(new FirstCart(), "13 times hour() = STATE", "count(2) = 0", "count(4) = 0");
        FirstCart x = Due.with(TEN, "go 11 0 0");
        e.on(x, "11 times hour() = 0", "count(2) = 11", "hour() = 1", "count(2) = 12", "hour() = FULL", "hour() = FULL",
            "count(2) = 12", "count(4) = 12", "status() = 0");
        e.edge(9, "its TRAIN (bits; 0: none)");
        x = Due.with(TEN);
        e.on(x, "12 times hour() = 0", "hour() = FULL");
        x = Due.with(TEN, "go 0 0 0", "go 0 0 0", "go 0 0 0", "go 0 0 0", "go 0 0 0", "go 0 0 0");
        e.on(x, "hour() = 63", "count(3) = 6", "hour() = 0");
        x = Due.with(TEN, "go 1 0 0", "go 2 0 0", "go 2 0 0", "go 0 0 0", "go 5 0 0", "go 2 0 0");
        e.on(x, "hour() = 8", "hour() = 1", "hour() = 38", "hour() = 0", "hour() = 0", "hour() = 16", "6 times hour() = 0");
        e.edge(9, "The HOUR that is to come goes by");
        x = Due.with(TEN, "go 0 0 0");
        e.on(x, "count(2) = 0", "hour() = 1", "count(2) = 1", "count(4) = 1", "cart(0, 3) = 0");
    }

    private void whoStands() {
        e.edge(9, "if it has COME (in this HOUR or ahead of it), and has not GONE");
        // A blind one goes as soon as it STANDS: in the HOUR in which it COMES, once.
        for (int come = 0; come < 12; come++) {
            FirstCart x = Due.with(TEN, "blind " + come + " 0 0");
            e.on(x, come + " times hour() = 0", "hour() = 1", 11 - come + " times hour() = 0", "cart(0, 3) = " + come);
        }
        // Who has GONE is no third one for those that form, who has not COME neither.
        FirstCart x = Due.with(TEN, "blind 0 0 0", "form 1 0 11", "go 2 0 11", "go 4 0 11");
        e.on(x, "hour() = 1", "3 times hour() = 0", "hour() = 2");
        x = Due.with(TEN, "form 0 0 11", "back 0 0 0", "go 3 0 9");
        e.on(x, "3 times hour() = 0", "hour() = 3");
    }

    private void whoIsReady() {
        e.edge(9, "a blind one as soon as it STANDS");
        FirstCart x = Due.with(TEN, "blind 3 0 11");
        e.on(x, "3 times hour() = 0", "hour() = 1");
        e.edge(9, "a going, a waiting one, if the HOUR is COME and PATIENCE, or later");
        for (String sort : new String[] {"go", "wait"}) {
            for (int patience = 0; patience <= 8; patience++) {
                x = Due.with(TEN, sort + " 2 0 " + patience);
                e.on(x, 2 + patience + " times hour() = 0", "hour() = 1");
            }
            // Later: the HOUR is past COME and PATIENCE, by a PATIENCE that became less.
            x = Due.with(TEN, sort + " 2 0 8");
            e.on(x, "6 times hour() = 0", "waits(0, 1) = 8", "hour() = 1");
        }
        e.edge(9, "a forming one likewise, or if three CARTS or more STAND");
        x = Due.with(TEN, "form 1 0 3", "form 2 0 11");
        e.on(x, "4 times hour() = 0", "hour() = 3");
        x = Due.with(TEN, "form 2 0 8");
        e.on(x, "6 times hour() = 0", "waits(0, 1) = 8", "hour() = 1");
        x = Due.with(TEN, "form 0 0 11", "go 1 0 11", "go 2 0 11", "go 2 0 11");
        e.on(x, "2 times hour() = 0", "hour() = 1");
        x = Due.with(TEN, "form 0 0 11", "go 1 0 11", "go 2 0 11");
        e.on(x, "2 times hour() = 0", "hour() = 1", "8 times hour() = 0", "hour() = 6");
        x = Due.with(TEN, "form 0 0 11", "go 1 0 11");
        e.on(x, "11 times hour() = 0", "hour() = 3");
        // A waiting one is not READY by three, nor a going one.
        x = Due.with(TEN, "wait 0 0 11", "go 0 0 11", "wait 0 0 11", "go 0 0 11");
        e.on(x, "11 times hour() = 0", "hour() = 15");
        e.edge(9, "one that turns back only in HOUR 11");
        x = Due.with(TEN, "back 0 0 0", "back 0 0 5", "back 3 0 0");
        e.on(x, "11 times hour() = 0", "hour() = 7");
    }

    private void whoIsReadyInTheLastHour() {
        e.edge(9, "in HOUR 11 all that STAND are READY");
        FirstCart x = Due.with(TEN, "wait 11 0 11", "go 11 0 11", "form 11 0 11", "back 11 0 11", "blind 11 0 11", "go 0 0 11");
        e.on(x, "11 times hour() = 0", "hour() = 63", "count(3) = 6");
        // READY, so that it may be FOREMOST: cart 0 came first, though its PATIENCE is not at its end.
        x = Due.with(TEN, "wait 1 0 11", "go 5 0 6");
        e.on(x, "11 times hour() = 0", "hour() = 3", "cart(0, 4) = 11", "cart(1, 4) = 0");
    }

    private void whoGoesAlong() {
        e.edge(9, "If any is READY, there is a TRAIN");
        FirstCart x = Due.with(TEN, "wait 0 0 5", "form 0 0 5");
        e.on(x, "5 times hour() = 0", "hour() = 3");
        e.edge(9, "all READY ones, and all waiting, forming ones, and those that turn back, that STAND");
        x = Due.with(TEN, "wait 0 0 11", "go 0 0 11", "form 0 0 11", "back 0 0 0", "blind 1 0 0");
        // Four stand: the forming one is READY at once, and takes along all but the going one.
        e.on(x, "hour() = 13", "hour() = 16", "9 times hour() = 0", "hour() = 2");
        x = Due.with(TEN, "wait 0 0 11", "go 0 0 11", "back 1 0 0", "blind 1 0 0", "wait 2 0 11", "back 2 0 0");
        e.on(x, "hour() = 0", "hour() = 13", "9 times hour() = 0", "hour() = 50");
        x = Due.with(TEN, "form 0 0 11", "blind 1 0 0");
        e.on(x, "hour() = 0", "hour() = 3");
    }

    private void whoIsForemost() {
        e.edge(9, "FOREMOST is of the READY ones that which COMES first, of like ones the least number");
        FirstCart x = Due.with(TEN, "go 2 0 1", "go 1 0 2", "go 1 0 2");
        e.on(x, "3 times hour() = 0", "hour() = 7", "cart(0, 4) = 0", "cart(1, 4) = 12", "cart(2, 4) = 0");
        x = Due.with(TEN, "wait 0 0 11", "wait 3 0 0", "back 0 0 0");
        e.on(x, "3 times hour() = 0", "hour() = 7", "cart(0, 4) = 0", "cart(1, 4) = 12", "cart(2, 4) = 0");
        e.edge(9, "one that turns back only if no other is READY");
        x = Due.with(TEN, "back 0 0 0", "wait 11 0 11");
        e.on(x, "12 times hour()", "cart(0, 4) = 0", "cart(1, 4) = 11");
        x = Due.with(TEN, "wait 11 0 11", "back 0 0 0");
        e.on(x, "12 times hour()", "cart(0, 4) = 11", "cart(1, 4) = 0");
        x = Due.with(TEN, "back 4 0 0", "back 3 0 0", "back 3 0 0");
        e.on(x, "12 times hour()", "cart(0, 4) = 0", "cart(1, 4) = 12", "cart(2, 4) = 0");
    }

    private void whatIsPaid() {
        e.edge(9, "It PAYS the toll for as many as are in the TRAIN");
        for (int n = 1; n <= 6; n++) {
            String[] some = new String[n];
            Arrays.fill(some, "go 0 3 0");
            e.on(Due.with(TEN, some), "hour()", "cart(0, 4) = " + (9 + n), "count(5) = " + (9 + n), "cart(0, 5) = " + (9 + n));
        }
        // One that stands but does not go is not paid for; a toll may be 0.
        e.on(Due.with(TEN, "go 0 0 0", "go 0 0 5"), "hour() = 1", "cart(0, 4) = 10");
        e.on(Due.with("0 5 5 5 5 5", "go 0 0 0"), "hour() = 1", "cart(0, 4) = 0", "cart(0, 3) = 0", "cart(0, 5) = 0");
    }

    private void waits() {
        e.edge(10, "PATIENCE of a CART: what it was.");
        FirstCart x = Due.with(TEN, "go 0 0 4", "wait 0 0 5");
        e.on(x, "waits(0, 0) = 4", "cart(0, 2) = 0", "waits(0, 11) = 0", "cart(0, 2) = 11", "waits(1, 5) = 5",
            "cart(1, 2) = 5");
        e.edge(10, "BAD; STATE: it has GONE.");
        x = Due.with(TEN, "blind 0 0 4", "wait 1 0 5");
        e.on(x, "waits(0, 12) = BAD", "waits(0, -1) = BAD", "waits(0, MIN) = BAD", "waits(0, MAX) = BAD",
            "waits(2, 0) = BAD", "waits(-1, 0) = BAD", "waits(MIN, 0) = BAD", "waits(MAX, 0) = BAD", "count(4) = 0",
            "cart(0, 2) = 4", "hour() = 1", "waits(0, 3) = STATE", "waits(0, 4) = STATE", "cart(0, 2) = 4",
            "count(4) = 1", "waits(1, 3) = 5");
        // BAD is ahead of STATE; undone, it has not GONE.
        e.on(x, "waits(0, 12) = BAD", "waits(0, -1) = BAD", "undo() = 1", "undo() = 0", "waits(0, 3) = 4");
        e.on(new FirstCart(), "waits(0, 0) = BAD");
        e.on(Due.with(TEN), "waits(0, 0) = BAD");
        // One that has not COME yet has not GONE; behind HOUR 11 all have.
        x = Due.with(TEN, "go 9 0 4");
        e.on(x, "waits(0, 3) = 4", "11 times hour() = 0", "waits(0, 2) = 3", "hour() = 1", "waits(0, 2) = STATE");
    }

    private void undo() {
        e.edge(11, "STATE: none.");
        e.on(new FirstCart(), "undo() = STATE");
        FirstCart x = Due.with(TEN, "go 0 0 4");
        e.on(x, "undo() = STATE", "hour()", "undo() = 0", "undo() = STATE", "count(2) = 0");
        e.edge(11, "The latest ACT is undone: how many can be undone yet.");
        x = Due.with(TEN, "go 0 2 1", "wait 1 3 0");
        e.on(x, "hour() = 0", "waits(0, 5) = 1", "hour() = 2", "count(4) = 3", "undo() = 2", "cart(1, 3) = NONE",
            "cart(1, 4) = 0", "cart(1, 5) = NONE", "count(2) = 1", "count(3) = 0", "count(5) = 0", "cart(0, 2) = 5",
            "undo() = 1", "cart(0, 2) = 1", "hour() = 3", "undo() = 1", "undo() = 0", "count(2) = 0");
        e.edge(11, "also such by which nothing becomes another");
        x = Due.with(TEN, "go 9 2 1");
        e.on(x, "waits(0, 1) = 1", "count(4) = 1", "hour() = 0", "count(4) = 2", "undo() = 1", "undo() = 0",
            "undo() = STATE");
        e.on(Due.with(TEN), "hour() = 0", "undo() = 0");
        // The train of an earlier hour stays; hour 11 can be undone like the others.
        x = Due.with(TEN, "go 0 0 0", "go 11 0 0");
        e.on(x, "hour() = 1", "11 times hour()", "hour() = FULL", "undo() = 11", "cart(0, 3) = 0", "cart(0, 4) = 10",
            "cart(1, 3) = NONE", "count(3) = 1", "hour() = 2", "hour() = FULL");
    }

    private void actsThatAreKept() {
        e.edge(11, "24 at most are kept, of more the oldest is forgotten");
        FirstCart x = Due.with(TEN, "go 0 0 11");
        e.on(x, "waits(0, 1)", "waits(0, 2)", "waits(0, 3)", "21 times waits(0, 4)", "count(4) = 24", "undo() = 23",
            "waits(0, 5) = 4", "count(4) = 24", "23 times undo()", "count(4) = 1", "cart(0, 2) = 1", "undo() = 0",
            "cart(0, 2) = 11", "undo() = STATE");
        x = Due.with(TEN, "go 0 0 11");
        e.on(x, "waits(0, 1)", "waits(0, 2)", "waits(0, 3)", "21 times waits(0, 4)", "waits(0, 5) = 4", "count(4) = 24",
            "waits(0, 6) = 5", "count(4) = 24", "undo() = 23", "cart(0, 2) = 5", "22 times undo()", "cart(0, 2) = 3",
            "undo() = 0", "cart(0, 2) = 2", "undo() = STATE", "cart(0, 2) = 2");
        // Hours and patiences are forgotten alike.
        x = Due.with(TEN, "go 0 0 11", "blind 0 0 0");
        e.on(x, "hour() = 2", "24 times waits(0, 7)", "count(4) = 24", "24 times undo()", "undo() = STATE", "count(2) = 1",
            "cart(1, 3) = 0", "cart(0, 2) = 11");
        e.edge(11, "each can be undone, the latest first");
        x = Due.with(TEN, "go 0 0 11", "go 0 0 11");
        e.on(x, "waits(0, 1)", "waits(1, 2)", "hour() = 0", "hour() = 1", "waits(1, 3)", "undo() = 4", "cart(1, 2) = 2",
            "undo() = 3", "count(3) = 0", "undo() = 2", "undo() = 1", "cart(1, 2) = 11", "cart(0, 2) = 1", "undo() = 0",
            "cart(0, 2) = 11");
    }

    private void cart() {
        e.edge(12, "3 the HOUR in which it went (NONE: not yet), 4 what it PAID, 5 COST (NONE)");
        FirstCart x = Due.with(TEN, "go 2 20 3", "wait 4 7 11", "back 0 1 2");
        e.on(x, "5 times hour() = 0", "cart(0, 3) = NONE", "cart(0, 4) = 0", "cart(0, 5) = NONE", "hour() = 7",
            "cart(0, 0) = 2", "cart(0, 1) = 20", "cart(0, 2) = 3", "cart(0, 3) = 5", "cart(0, 4) = 12",
            "cart(0, 5) = 72", "cart(1, 3) = 5", "cart(1, 4) = 0", "cart(1, 5) = 7", "cart(2, 5) = 5");
        e.edge(12, "Of a CART: 0 COME, 1 HASTE, 2 PATIENCE");
        e.on(x, "cart(0, 6) = BAD", "cart(0, -1) = BAD", "cart(0, MIN) = BAD", "cart(0, MAX) = BAD", "cart(3, 0) = BAD",
            "cart(-1, 0) = BAD", "cart(MIN, 0) = BAD", "cart(MAX, 0) = BAD", "cart(3, 6) = BAD");
        e.on(Due.with(TEN), "cart(0, 0) = BAD");
        e.on(new FirstCart(), "cart(0, 0) = BAD");
        e.edge(12, "HASTE times the HOURS from COME to when it went, and what it PAID");
        // None from COME to COME; eleven at most.
        e.on(Due.with(TEN, "blind 7 20 0"), "8 times hour()", "cart(0, 5) = 10");
        e.on(Due.with("99 0 0 0 0 0", "back 0 20 0"), "12 times hour()", "cart(0, 5) = 319");
        e.on(Due.with("99 0 0 0 0 0", "back 0 0 0"), "12 times hour()", "cart(0, 5) = 99");
    }

    private void image() {
        e.edge(24, "An IMAGE (0, 1) is kept of the PASS: 1.");
        FirstCart x = Due.with(TEN, "go 0 0 11");
        e.on(x, "image(0) = 1", "image(1) = 1", "image(2) = BAD", "image(-1) = BAD", "image(MIN) = BAD",
            "image(MAX) = BAD");
        // Kept again, it is as the pass is now; the other one, the acts and the pass stay.
        e.on(x, "hour()", "waits(0, 3)", "image(1) = 1", "count(4) = 2", "count(2) = 1", "restore(0) = 1",
            "count(2) = 0", "cart(0, 2) = 11", "restore(1) = 1", "count(2) = 1", "cart(0, 2) = 3", "image(0) = 1",
            "hour()", "restore(0) = 1", "count(2) = 1");
        e.edge(24, "BAD; STATE: no PASS.");
        e.on(new FirstCart(), "image(2) = BAD", "image(-1) = BAD", "image(0) = STATE", "image(1) = STATE",
            "restore(0) = STATE");
        e.on(Due.with(TEN), "image(0) = 1");
        e.edge(24, "What is refused, or found, changes nothing but status().");
        x = Due.with(TEN, "go 0 0 11");
        e.on(x, "image(0)", "image(1)", "hour()", "image(2) = BAD", "image(-1) = BAD", "count(4) = 1", "restore(0) = 1",
            "count(2) = 0", "hour()", "restore(1) = 1", "count(2) = 0");
    }

    private void restore() {
        e.edge(25, "BAD; STATE: none was kept.");
        e.on(new FirstCart(), "restore(0) = STATE", "restore(1) = STATE", "restore(2) = BAD", "restore(-1) = BAD",
            "restore(MIN) = BAD", "restore(MAX) = BAD");
        FirstCart x = Due.with(TEN, "go 0 0 11");
        e.on(x, "restore(0) = STATE", "image(0)", "restore(1) = STATE", "restore(0) = 1", "image(1)", "restore(1) = 1");
        e.edge(25, "no ACT can be undone then");
        e.on(x, "hour()", "waits(0, 5)", "count(4) = 2", "restore(0) = 1", "count(4) = 0", "undo() = STATE", "hour()",
            "undo() = 0", "undo() = STATE");
        e.edge(25, "The PASS is as an IMAGE kept it");
        x = Due.with(TEN, "blind 0 3 0", "go 1 2 11", "form 2 1 10");
        e.on(x, "3 times hour()", "waits(1, 4)", "image(0)");
        e.due("pass()", Due.pass(x, "toll 9 9 9 9 9 9;"), 0);
        e.on(x, "12 times hour()", "restore(0) = 1", "count(1) = 3", "count(2) = 3", "count(3) = 1", "count(5) = 10",
            "kind(0) = 5", "kind(1) = 4", "kind(2) = 2", "cart(0, 3) = 0", "cart(0, 4) = 10", "cart(0, 5) = 10",
            "cart(1, 0) = 1", "cart(1, 1) = 2", "cart(1, 2) = 4", "cart(1, 3) = NONE", "shares(6, 0) = 3",
            "hour() = 0", "hour() = 0", "hour() = 6", "restore(0) = 1", "count(3) = 1", "count(5) = 10",
            "cart(1, 4) = 0");
        // A pass without carts, too; one that a faulty text left alone.
        x = Due.with(TEN);
        e.on(x, "image(1)");
        e.due("pass()", Due.pass(x, "toll 1 1 1 1 1 1;cart go 0 0 0;"), 1);
        e.on(x, "restore(1) = 1", "count(1) = 0", "kind(0) = BAD", "shares(1, 0) = 10");
        e.edge(25, "What is refused, or found, changes nothing but status().");
        x = Due.with(TEN, "go 0 0 11");
        e.on(x, "waits(0, 2)", "hour()", "restore(0) = STATE", "restore(2) = BAD", "count(2) = 1", "count(4) = 2",
            "cart(0, 2) = 2", "undo() = 1", "undo() = 0", "cart(0, 2) = 11");
    }
}
